section
-- ===== PART A: goes FIRST, ahead of the names: the tables' words, and 'selects' of the private methods out of them =====
/-- a private method of a class that the tables say can be made, by its rows of tables_1 -/
def lw_okq (q : MethodName × Nat) : Prop := (q.1.cls ≠ "java/lang/invoke/MethodHandle" ∧ q.1.cls ≠ "java/lang/invoke/VarHandle") ∧ Cond.instantiable q.1.cls q.2 ∈ tables_1 ∧ Cond.privateMethod q.1 ∈ tables_1 ∧ Cond.instanceMethod q.1 ∈ tables_1
theorem lw_p0 : lw_okq (⟨"DeltaRows$ByteRow", "hasRoom", "(II)Z"⟩, 2) := ⟨⟨by decide +kernel, by decide +kernel⟩, List.mem_of_getElem? (i := 18) (by decide +kernel), List.mem_of_getElem? (i := 152) (by decide +kernel), List.mem_of_getElem? (i := 153) (by decide +kernel)⟩
theorem lw_p1 : lw_okq (⟨"DeltaRows", "writeBlock", "(I)V"⟩, 6) := ⟨⟨by decide +kernel, by decide +kernel⟩, List.mem_of_getElem? (i := 10) (by decide +kernel), List.mem_of_getElem? (i := 167) (by decide +kernel), List.mem_of_getElem? (i := 168) (by decide +kernel)⟩
theorem lw_p2 : lw_okq (⟨"DeltaRows", "leastDifference", "(I)J"⟩, 6) := ⟨⟨by decide +kernel, by decide +kernel⟩, List.mem_of_getElem? (i := 10) (by decide +kernel), List.mem_of_getElem? (i := 171) (by decide +kernel), List.mem_of_getElem? (i := 172) (by decide +kernel)⟩
theorem lw_p3 : lw_okq (⟨"DeltaRows", "neededWidth", "(II)I"⟩, 6) := ⟨⟨by decide +kernel, by decide +kernel⟩, List.mem_of_getElem? (i := 10) (by decide +kernel), List.mem_of_getElem? (i := 184) (by decide +kernel), List.mem_of_getElem? (i := 185) (by decide +kernel)⟩
theorem lw_p4 : lw_okq (⟨"DeltaRows", "writePart", "(II)V"⟩, 6) := ⟨⟨by decide +kernel, by decide +kernel⟩, List.mem_of_getElem? (i := 10) (by decide +kernel), List.mem_of_getElem? (i := 196) (by decide +kernel), List.mem_of_getElem? (i := 197) (by decide +kernel)⟩
theorem lw_p5 : lw_okq (⟨"DeltaRows$Scan", "lookAtHead", "()V"⟩, 6) := ⟨⟨by decide +kernel, by decide +kernel⟩, List.mem_of_getElem? (i := 34) (by decide +kernel), List.mem_of_getElem? (i := 212) (by decide +kernel), List.mem_of_getElem? (i := 213) (by decide +kernel)⟩
theorem lw_p6 : lw_okq (⟨"DeltaRows$Scan", "nextVarint", "()J"⟩, 6) := ⟨⟨by decide +kernel, by decide +kernel⟩, List.mem_of_getElem? (i := 34) (by decide +kernel), List.mem_of_getElem? (i := 216) (by decide +kernel), List.mem_of_getElem? (i := 217) (by decide +kernel)⟩
theorem lw_p7 : lw_okq (⟨"DeltaRows$Scan", "nextByte", "()I"⟩, 6) := ⟨⟨by decide +kernel, by decide +kernel⟩, List.mem_of_getElem? (i := 34) (by decide +kernel), List.mem_of_getElem? (i := 220) (by decide +kernel), List.mem_of_getElem? (i := 221) (by decide +kernel)⟩
theorem lw_p8 : lw_okq (⟨"DeltaRows$Scan", "refuse", "(II)V"⟩, 6) := ⟨⟨by decide +kernel, by decide +kernel⟩, List.mem_of_getElem? (i := 34) (by decide +kernel), List.mem_of_getElem? (i := 228) (by decide +kernel), List.mem_of_getElem? (i := 229) (by decide +kernel)⟩
theorem lw_p9 : lw_okq (⟨"DeltaRows$Scan", "isFaultless", "()Z"⟩, 6) := ⟨⟨by decide +kernel, by decide +kernel⟩, List.mem_of_getElem? (i := 34) (by decide +kernel), List.mem_of_getElem? (i := 240) (by decide +kernel), List.mem_of_getElem? (i := 241) (by decide +kernel)⟩
theorem lw_p10 : lw_okq (⟨"DeltaRows$Scan", "lookAtBlock", "(LDeltaRows$Layout;I)V"⟩, 6) := ⟨⟨by decide +kernel, by decide +kernel⟩, List.mem_of_getElem? (i := 34) (by decide +kernel), List.mem_of_getElem? (i := 250) (by decide +kernel), List.mem_of_getElem? (i := 251) (by decide +kernel)⟩
theorem lw_p11 : lw_okq (⟨"DeltaRows$Scan", "longsOf", "(II)I"⟩, 6) := ⟨⟨by decide +kernel, by decide +kernel⟩, List.mem_of_getElem? (i := 34) (by decide +kernel), List.mem_of_getElem? (i := 254) (by decide +kernel), List.mem_of_getElem? (i := 255) (by decide +kernel)⟩
theorem lw_p12 : lw_okq (⟨"DeltaRows$Scan", "nextWidth", "(I)I"⟩, 6) := ⟨⟨by decide +kernel, by decide +kernel⟩, List.mem_of_getElem? (i := 34) (by decide +kernel), List.mem_of_getElem? (i := 259) (by decide +kernel), List.mem_of_getElem? (i := 260) (by decide +kernel)⟩
theorem lw_p13 : lw_okq (⟨"DeltaRows$Scan", "passPart", "(II)V"⟩, 6) := ⟨⟨by decide +kernel, by decide +kernel⟩, List.mem_of_getElem? (i := 34) (by decide +kernel), List.mem_of_getElem? (i := 263) (by decide +kernel), List.mem_of_getElem? (i := 264) (by decide +kernel)⟩
theorem lw_p14 : lw_okq (⟨"DeltaRows", "takeRow", "()V"⟩, 6) := ⟨⟨by decide +kernel, by decide +kernel⟩, List.mem_of_getElem? (i := 10) (by decide +kernel), List.mem_of_getElem? (i := 269) (by decide +kernel), List.mem_of_getElem? (i := 270) (by decide +kernel)⟩
theorem lw_p15 : lw_okq (⟨"DeltaRows", "takePart", "(II)V"⟩, 6) := ⟨⟨by decide +kernel, by decide +kernel⟩, List.mem_of_getElem? (i := 10) (by decide +kernel), List.mem_of_getElem? (i := 273) (by decide +kernel), List.mem_of_getElem? (i := 274) (by decide +kernel)⟩
def lw_privs_1 : List (MethodName × Nat) := [(⟨"DeltaRows$ByteRow", "hasRoom", "(II)Z"⟩, 2), (⟨"DeltaRows", "writeBlock", "(I)V"⟩, 6), (⟨"DeltaRows", "leastDifference", "(I)J"⟩, 6), (⟨"DeltaRows", "neededWidth", "(II)I"⟩, 6), (⟨"DeltaRows", "writePart", "(II)V"⟩, 6), (⟨"DeltaRows$Scan", "lookAtHead", "()V"⟩, 6), (⟨"DeltaRows$Scan", "nextVarint", "()J"⟩, 6), (⟨"DeltaRows$Scan", "nextByte", "()I"⟩, 6), (⟨"DeltaRows$Scan", "refuse", "(II)V"⟩, 6), (⟨"DeltaRows$Scan", "isFaultless", "()Z"⟩, 6), (⟨"DeltaRows$Scan", "lookAtBlock", "(LDeltaRows$Layout;I)V"⟩, 6), (⟨"DeltaRows$Scan", "longsOf", "(II)I"⟩, 6), (⟨"DeltaRows$Scan", "nextWidth", "(I)I"⟩, 6), (⟨"DeltaRows$Scan", "passPart", "(II)V"⟩, 6), (⟨"DeltaRows", "takeRow", "()V"⟩, 6), (⟨"DeltaRows", "takePart", "(II)V"⟩, 6)]
theorem lw_r1 : ∀ q ∈ lw_privs_1, lw_okq q := List.forall_mem_cons.mpr ⟨lw_p0, List.forall_mem_cons.mpr ⟨lw_p1, List.forall_mem_cons.mpr ⟨lw_p2, List.forall_mem_cons.mpr ⟨lw_p3, List.forall_mem_cons.mpr ⟨lw_p4, List.forall_mem_cons.mpr ⟨lw_p5, List.forall_mem_cons.mpr ⟨lw_p6, List.forall_mem_cons.mpr ⟨lw_p7, List.forall_mem_cons.mpr ⟨lw_p8, List.forall_mem_cons.mpr ⟨lw_p9, List.forall_mem_cons.mpr ⟨lw_p10, List.forall_mem_cons.mpr ⟨lw_p11, List.forall_mem_cons.mpr ⟨lw_p12, List.forall_mem_cons.mpr ⟨lw_p13, List.forall_mem_cons.mpr ⟨lw_p14, List.forall_mem_cons.mpr ⟨lw_p15, fun _ h => absurd h List.not_mem_nil⟩⟩⟩⟩⟩⟩⟩⟩⟩⟩⟩⟩⟩⟩⟩⟩
theorem lw_p16 : lw_okq (⟨"DeltaRowsModel", "addVarint", "(J)V"⟩, 16) := ⟨⟨by decide +kernel, by decide +kernel⟩, List.mem_of_getElem? (i := 330) (by decide +kernel), List.mem_of_getElem? (i := 405) (by decide +kernel), List.mem_of_getElem? (i := 406) (by decide +kernel)⟩
theorem lw_p17 : lw_okq (⟨"DeltaRowsModel", "add", "(I)V"⟩, 16) := ⟨⟨by decide +kernel, by decide +kernel⟩, List.mem_of_getElem? (i := 330) (by decide +kernel), List.mem_of_getElem? (i := 410) (by decide +kernel), List.mem_of_getElem? (i := 411) (by decide +kernel)⟩
theorem lw_p18 : lw_okq (⟨"DeltaRowsModel", "difference", "(I)J"⟩, 16) := ⟨⟨by decide +kernel, by decide +kernel⟩, List.mem_of_getElem? (i := 330) (by decide +kernel), List.mem_of_getElem? (i := 419) (by decide +kernel), List.mem_of_getElem? (i := 420) (by decide +kernel)⟩
theorem lw_p19 : lw_okq (⟨"DeltaRowsModel", "varint", "()J"⟩, 16) := ⟨⟨by decide +kernel, by decide +kernel⟩, List.mem_of_getElem? (i := 330) (by decide +kernel), List.mem_of_getElem? (i := 427) (by decide +kernel), List.mem_of_getElem? (i := 428) (by decide +kernel)⟩
theorem lw_p20 : lw_okq (⟨"DeltaRowsModel", "next", "()I"⟩, 16) := ⟨⟨by decide +kernel, by decide +kernel⟩, List.mem_of_getElem? (i := 330) (by decide +kernel), List.mem_of_getElem? (i := 431) (by decide +kernel), List.mem_of_getElem? (i := 432) (by decide +kernel)⟩
theorem lw_p21 : lw_okq (⟨"DeltaRowsModel", "fail", "(II)V"⟩, 16) := ⟨⟨by decide +kernel, by decide +kernel⟩, List.mem_of_getElem? (i := 330) (by decide +kernel), List.mem_of_getElem? (i := 435) (by decide +kernel), List.mem_of_getElem? (i := 436) (by decide +kernel)⟩
theorem lw_p22 : lw_okq (⟨"DeltaRowsModel", "readBlock", "(III)V"⟩, 16) := ⟨⟨by decide +kernel, by decide +kernel⟩, List.mem_of_getElem? (i := 330) (by decide +kernel), List.mem_of_getElem? (i := 443) (by decide +kernel), List.mem_of_getElem? (i := 444) (by decide +kernel)⟩
def lw_privs_2 : List (MethodName × Nat) := [(⟨"DeltaRowsModel", "addVarint", "(J)V"⟩, 16), (⟨"DeltaRowsModel", "add", "(I)V"⟩, 16), (⟨"DeltaRowsModel", "difference", "(I)J"⟩, 16), (⟨"DeltaRowsModel", "varint", "()J"⟩, 16), (⟨"DeltaRowsModel", "next", "()I"⟩, 16), (⟨"DeltaRowsModel", "fail", "(II)V"⟩, 16), (⟨"DeltaRowsModel", "readBlock", "(III)V"⟩, 16)]
theorem lw_r2 : ∀ q ∈ lw_privs_2, lw_okq q := List.forall_mem_cons.mpr ⟨lw_p16, List.forall_mem_cons.mpr ⟨lw_p17, List.forall_mem_cons.mpr ⟨lw_p18, List.forall_mem_cons.mpr ⟨lw_p19, List.forall_mem_cons.mpr ⟨lw_p20, List.forall_mem_cons.mpr ⟨lw_p21, List.forall_mem_cons.mpr ⟨lw_p22, fun _ h => absurd h List.not_mem_nil⟩⟩⟩⟩⟩⟩⟩
def lw_privs : List (MethodName × Nat) := lw_privs_1 ++ (lw_privs_2)
def lw_tbl : List Cond := k2_sels lw_privs ++ tables_1
theorem lw_privs_ok : ∀ q ∈ lw_privs, lw_okq q := by
  show ∀ q ∈ lw_privs_1 ++ (lw_privs_2), lw_okq q
  exact List.forall_mem_append.mpr ⟨lw_r1, lw_r2⟩
end
section
/-! names, field tables, the words by their places -/
def R_ByteRow : String := "DeltaRows$ByteRow"
def R_Layout : String := "DeltaRows$Layout"
def R_Scan : String := "DeltaRows$Scan"
def R_DeltaRows : String := "DeltaRows"
def R_Model : String := "DeltaRowsModel"
def R_Integer : String := "java/lang/Integer"
def R_Long : String := "java/lang/Long"
def R_Math : String := "java/lang/Math"
def F_ByteRow : u_T := fun k => match k with
  | 0 => ("DeltaRows$ByteRow", "words", "[J", true)
  | _ => ("DeltaRows$ByteRow", "used", "I", false)
def t_ByteRow : Nat → FieldType := fun k => match k with
  | 0 => .array .long
  | _ => .int
theorem n_ByteRow : ∀ a, a < 2 → ∀ b, b < 2 → a ≠ b → (F_ByteRow a).2.1 ≠ (F_ByteRow b).2.1 := by decide +kernel
theorem t_ByteRow_ok : ∀ k, k < 2 → parseFieldDescriptor (F_ByteRow k).2.2.1 = some (t_ByteRow k) := by decide +kernel
def F_Layout : u_T := fun k => match k with
  | 0 => ("DeltaRows$Layout", "blockCount", "I", false)
  | 1 => ("DeltaRows$Layout", "leasts", "[J", true)
  | 2 => ("DeltaRows$Layout", "widths", "[I", true)
  | _ => ("DeltaRows$Layout", "starts", "[I", true)
def t_Layout : Nat → FieldType := fun k => match k with
  | 0 => .int
  | 1 => .array .long
  | 2 => .array .int
  | _ => .array .int
theorem n_Layout : ∀ a, a < 4 → ∀ b, b < 4 → a ≠ b → (F_Layout a).2.1 ≠ (F_Layout b).2.1 := by decide +kernel
theorem t_Layout_ok : ∀ k, k < 4 → parseFieldDescriptor (F_Layout k).2.2.1 = some (t_Layout k) := by decide +kernel
def F_Scan : u_T := fun k => match k with
  | 0 => ("DeltaRows$Scan", "bytes", "LDeltaRows$ByteRow;", true)
  | 1 => ("DeltaRows$Scan", "at", "I", false)
  | 2 => ("DeltaRows$Scan", "fault", "I", false)
  | 3 => ("DeltaRows$Scan", "faultPlace", "I", false)
  | 4 => ("DeltaRows$Scan", "total", "I", false)
  | _ => ("DeltaRows$Scan", "first", "J", false)
def t_Scan : Nat → FieldType := fun k => match k with
  | 0 => .object "DeltaRows$ByteRow"
  | 1 => .int
  | 2 => .int
  | 3 => .int
  | 4 => .int
  | _ => .long
theorem n_Scan : ∀ a, a < 6 → ∀ b, b < 6 → a ≠ b → (F_Scan a).2.1 ≠ (F_Scan b).2.1 := by decide +kernel
theorem t_Scan_ok : ∀ k, k < 6 → parseFieldDescriptor (F_Scan k).2.2.1 = some (t_Scan k) := by decide +kernel
def F_DeltaRows : u_T := fun k => match k with
  | 0 => ("DeltaRows", "row", "[J", true)
  | 1 => ("DeltaRows", "rowCount", "I", false)
  | 2 => ("DeltaRows", "bytes", "LDeltaRows$ByteRow;", true)
  | 3 => ("DeltaRows", "scan", "LDeltaRows$Scan;", true)
  | 4 => ("DeltaRows", "layout", "LDeltaRows$Layout;", false)
  | _ => ("DeltaRows", "spareLayout", "LDeltaRows$Layout;", false)
def t_DeltaRows : Nat → FieldType := fun k => match k with
  | 0 => .array .long
  | 1 => .int
  | 2 => .object "DeltaRows$ByteRow"
  | 3 => .object "DeltaRows$Scan"
  | 4 => .object "DeltaRows$Layout"
  | _ => .object "DeltaRows$Layout"
theorem n_DeltaRows : ∀ a, a < 6 → ∀ b, b < 6 → a ≠ b → (F_DeltaRows a).2.1 ≠ (F_DeltaRows b).2.1 := by decide +kernel
theorem t_DeltaRows_ok : ∀ k, k < 6 → parseFieldDescriptor (F_DeltaRows k).2.2.1 = some (t_DeltaRows k) := by decide +kernel
def F_Model : u_T := fun k => match k with
  | 0 => ("DeltaRowsModel", "code", "I", false)
  | 1 => ("DeltaRowsModel", "row", "[J", true)
  | 2 => ("DeltaRowsModel", "spare", "[J", true)
  | 3 => ("DeltaRowsModel", "count", "I", false)
  | 4 => ("DeltaRowsModel", "bytes", "[I", true)
  | 5 => ("DeltaRowsModel", "size", "I", false)
  | 6 => ("DeltaRowsModel", "place", "I", false)
  | 7 => ("DeltaRowsModel", "leasts", "[J", true)
  | 8 => ("DeltaRowsModel", "newLeasts", "[J", true)
  | 9 => ("DeltaRowsModel", "widths", "[I", true)
  | 10 => ("DeltaRowsModel", "starts", "[I", true)
  | 11 => ("DeltaRowsModel", "newWidths", "[I", true)
  | 12 => ("DeltaRowsModel", "newStarts", "[I", true)
  | 13 => ("DeltaRowsModel", "blocks", "I", false)
  | 14 => ("DeltaRowsModel", "at", "I", false)
  | _ => ("DeltaRowsModel", "fault", "I", false)
def t_Model : Nat → FieldType := fun k => match k with
  | 0 => .int
  | 1 => .array .long
  | 2 => .array .long
  | 3 => .int
  | 4 => .array .int
  | 5 => .int
  | 6 => .int
  | 7 => .array .long
  | 8 => .array .long
  | 9 => .array .int
  | 10 => .array .int
  | 11 => .array .int
  | 12 => .array .int
  | 13 => .int
  | 14 => .int
  | _ => .int
theorem n_Model : ∀ a, a < 16 → ∀ b, b < 16 → a ≠ b → (F_Model a).2.1 ≠ (F_Model b).2.1 := by decide +kernel
theorem t_Model_ok : ∀ k, k < 16 → parseFieldDescriptor (F_Model k).2.2.1 = some (t_Model k) := by decide +kernel
abbrev b_DeltaRows_init : ByteArray := prog_1_method_1_code
def y_DeltaRows_init : MethodName := ⟨R_DeltaRows, "<init>", "()V"⟩
abbrev b_ByteRow_init : ByteArray := prog_2_method_1_code
def y_ByteRow_init : MethodName := ⟨R_ByteRow, "<init>", "()V"⟩
abbrev b_Scan_init : ByteArray := prog_4_method_1_code
def y_Scan_init : MethodName := ⟨R_Scan, "<init>", "(LDeltaRows$ByteRow;)V"⟩
abbrev b_Layout_init : ByteArray := prog_3_method_1_code
def y_Layout_init : MethodName := ⟨R_Layout, "<init>", "()V"⟩
abbrev b_DeltaRows_put : ByteArray := prog_1_method_2_code
def y_DeltaRows_put : MethodName := ⟨R_DeltaRows, "put", "(J)Z"⟩
abbrev b_DeltaRows_clear : ByteArray := prog_1_method_3_code
def y_DeltaRows_clear : MethodName := ⟨R_DeltaRows, "clear", "()V"⟩
abbrev b_DeltaRows_count : ByteArray := prog_1_method_4_code
def y_DeltaRows_count : MethodName := ⟨R_DeltaRows, "count", "()I"⟩
abbrev b_DeltaRows_get : ByteArray := prog_1_method_5_code
def y_DeltaRows_get : MethodName := ⟨R_DeltaRows, "get", "(I)J"⟩
abbrev b_DeltaRows_write : ByteArray := prog_1_method_6_code
def y_DeltaRows_write : MethodName := ⟨R_DeltaRows, "write", "()I"⟩
abbrev b_ByteRow_shorten : ByteArray := prog_2_method_7_code
def y_ByteRow_shorten : MethodName := ⟨R_ByteRow, "shorten", "(I)V"⟩
abbrev b_ByteRow_addVarint : ByteArray := prog_2_method_6_code
def y_ByteRow_addVarint : MethodName := ⟨R_ByteRow, "addVarint", "(J)V"⟩
abbrev b_ByteRow_add : ByteArray := prog_2_method_5_code
def y_ByteRow_add : MethodName := ⟨R_ByteRow, "add", "(I)Z"⟩
abbrev b_ByteRow_change : ByteArray := prog_2_method_4_code
def y_ByteRow_change : MethodName := ⟨R_ByteRow, "change", "(II)V"⟩
abbrev b_ByteRow_setBits : ByteArray := prog_2_method_9_code
def y_ByteRow_setBits : MethodName := ⟨R_ByteRow, "setBits", "(IIJ)V"⟩
abbrev b_ByteRow_hasRoom : ByteArray := prog_2_method_10_code
def y_ByteRow_hasRoom : MethodName := ⟨R_ByteRow, "hasRoom", "(II)Z"⟩
abbrev b_ByteRow_maskOf : ByteArray := prog_2_method_11_code
def y_ByteRow_maskOf : MethodName := ⟨R_ByteRow, "maskOf", "(I)J"⟩
abbrev b_DeltaRows_zigzag : ByteArray := prog_1_method_27_code
def y_DeltaRows_zigzag : MethodName := ⟨R_DeltaRows, "zigzag", "(J)J"⟩
abbrev b_DeltaRows_blocksFor : ByteArray := prog_1_method_24_code
def y_DeltaRows_blocksFor : MethodName := ⟨R_DeltaRows, "blocksFor", "(I)I"⟩
abbrev b_DeltaRows_writeBlock : ByteArray := prog_1_method_18_code
def y_DeltaRows_writeBlock : MethodName := ⟨R_DeltaRows, "writeBlock", "(I)V"⟩
abbrev b_DeltaRows_leastDifference : ByteArray := prog_1_method_19_code
def y_DeltaRows_leastDifference : MethodName := ⟨R_DeltaRows, "leastDifference", "(I)J"⟩
abbrev b_DeltaRows_partEdge : ByteArray := prog_1_method_25_code
def y_DeltaRows_partEdge : MethodName := ⟨R_DeltaRows, "partEdge", "(III)I"⟩
abbrev b_DeltaRows_neededWidth : ByteArray := prog_1_method_20_code
def y_DeltaRows_neededWidth : MethodName := ⟨R_DeltaRows, "neededWidth", "(II)I"⟩
abbrev b_Long_numberOfLeadingZeros : ByteArray := prog_8_method_48_code
def y_Long_numberOfLeadingZeros : MethodName := ⟨R_Long, "numberOfLeadingZeros", "(J)I"⟩
abbrev b_Integer_numberOfLeadingZeros : ByteArray := prog_7_method_47_code
def y_Integer_numberOfLeadingZeros : MethodName := ⟨R_Integer, "numberOfLeadingZeros", "(I)I"⟩
abbrev b_DeltaRows_writePart : ByteArray := prog_1_method_21_code
def y_DeltaRows_writePart : MethodName := ⟨R_DeltaRows, "writePart", "(II)V"⟩
abbrev b_DeltaRows_partBytes : ByteArray := prog_1_method_26_code
def y_DeltaRows_partBytes : MethodName := ⟨R_DeltaRows, "partBytes", "(I)I"⟩
abbrev b_DeltaRows_read : ByteArray := prog_1_method_7_code
def y_DeltaRows_read : MethodName := ⟨R_DeltaRows, "read", "()I"⟩
abbrev b_Scan_lookThrough : ByteArray := prog_4_method_2_code
def y_Scan_lookThrough : MethodName := ⟨R_Scan, "lookThrough", "(LDeltaRows$Layout;)V"⟩
abbrev b_Scan_lookAtHead : ByteArray := prog_4_method_3_code
def y_Scan_lookAtHead : MethodName := ⟨R_Scan, "lookAtHead", "()V"⟩
abbrev b_Scan_nextVarint : ByteArray := prog_4_method_8_code
def y_Scan_nextVarint : MethodName := ⟨R_Scan, "nextVarint", "()J"⟩
abbrev b_Scan_nextByte : ByteArray := prog_4_method_9_code
def y_Scan_nextByte : MethodName := ⟨R_Scan, "nextByte", "()I"⟩
abbrev b_ByteRow_has : ByteArray := prog_2_method_2_code
def y_ByteRow_has : MethodName := ⟨R_ByteRow, "has", "(I)Z"⟩
abbrev b_Scan_refuse : ByteArray := prog_4_method_11_code
def y_Scan_refuse : MethodName := ⟨R_Scan, "refuse", "(II)V"⟩
abbrev b_ByteRow_byteIn : ByteArray := prog_2_method_3_code
def y_ByteRow_byteIn : MethodName := ⟨R_ByteRow, "byteIn", "(I)I"⟩
abbrev b_ByteRow_bitsIn : ByteArray := prog_2_method_8_code
def y_ByteRow_bitsIn : MethodName := ⟨R_ByteRow, "bitsIn", "(II)J"⟩
abbrev b_Scan_isFaultless : ByteArray := prog_4_method_10_code
def y_Scan_isFaultless : MethodName := ⟨R_Scan, "isFaultless", "()Z"⟩
abbrev b_DeltaRows_unzigzag : ByteArray := prog_1_method_28_code
def y_DeltaRows_unzigzag : MethodName := ⟨R_DeltaRows, "unzigzag", "(J)J"⟩
abbrev b_Scan_lookAtBlock : ByteArray := prog_4_method_4_code
def y_Scan_lookAtBlock : MethodName := ⟨R_Scan, "lookAtBlock", "(LDeltaRows$Layout;I)V"⟩
abbrev b_Scan_longsOf : ByteArray := prog_4_method_5_code
def y_Scan_longsOf : MethodName := ⟨R_Scan, "longsOf", "(II)I"⟩
abbrev b_Scan_nextWidth : ByteArray := prog_4_method_6_code
def y_Scan_nextWidth : MethodName := ⟨R_Scan, "nextWidth", "(I)I"⟩
abbrev b_Scan_passPart : ByteArray := prog_4_method_7_code
def y_Scan_passPart : MethodName := ⟨R_Scan, "passPart", "(II)V"⟩
abbrev b_DeltaRows_takeRow : ByteArray := prog_1_method_22_code
def y_DeltaRows_takeRow : MethodName := ⟨R_DeltaRows, "takeRow", "()V"⟩
abbrev b_DeltaRows_takePart : ByteArray := prog_1_method_23_code
def y_DeltaRows_takePart : MethodName := ⟨R_DeltaRows, "takePart", "(II)V"⟩
abbrev b_DeltaRows_place : ByteArray := prog_1_method_8_code
def y_DeltaRows_place : MethodName := ⟨R_DeltaRows, "place", "()I"⟩
abbrev b_DeltaRows_size : ByteArray := prog_1_method_9_code
def y_DeltaRows_size : MethodName := ⟨R_DeltaRows, "size", "()I"⟩
abbrev b_DeltaRows_byteAt : ByteArray := prog_1_method_10_code
def y_DeltaRows_byteAt : MethodName := ⟨R_DeltaRows, "byteAt", "(I)I"⟩
abbrev b_DeltaRows_setByte : ByteArray := prog_1_method_11_code
def y_DeltaRows_setByte : MethodName := ⟨R_DeltaRows, "setByte", "(II)Z"⟩
abbrev b_DeltaRows_append : ByteArray := prog_1_method_12_code
def y_DeltaRows_append : MethodName := ⟨R_DeltaRows, "append", "(I)Z"⟩
abbrev b_DeltaRows_cut : ByteArray := prog_1_method_13_code
def y_DeltaRows_cut : MethodName := ⟨R_DeltaRows, "cut", "(I)Z"⟩
abbrev b_DeltaRows_blocks : ByteArray := prog_1_method_14_code
def y_DeltaRows_blocks : MethodName := ⟨R_DeltaRows, "blocks", "()I"⟩
abbrev b_DeltaRows_least : ByteArray := prog_1_method_15_code
def y_DeltaRows_least : MethodName := ⟨R_DeltaRows, "least", "(I)J"⟩
abbrev b_Layout_hasBlock : ByteArray := prog_3_method_2_code
def y_Layout_hasBlock : MethodName := ⟨R_Layout, "hasBlock", "(I)Z"⟩
abbrev b_DeltaRows_width : ByteArray := prog_1_method_16_code
def y_DeltaRows_width : MethodName := ⟨R_DeltaRows, "width", "(II)I"⟩
abbrev b_Layout_hasPart : ByteArray := prog_3_method_3_code
def y_Layout_hasPart : MethodName := ⟨R_Layout, "hasPart", "(II)Z"⟩
abbrev b_DeltaRows_start : ByteArray := prog_1_method_17_code
def y_DeltaRows_start : MethodName := ⟨R_DeltaRows, "start", "(II)I"⟩
abbrev b_Model_init : ByteArray := prog_6_method_1_code
def y_Model_init : MethodName := ⟨R_Model, "<init>", "()V"⟩
abbrev b_Model_put : ByteArray := prog_6_method_3_code
def y_Model_put : MethodName := ⟨R_Model, "put", "(J)Z"⟩
abbrev b_Model_clear : ByteArray := prog_6_method_4_code
def y_Model_clear : MethodName := ⟨R_Model, "clear", "()V"⟩
abbrev b_Model_count : ByteArray := prog_6_method_5_code
def y_Model_count : MethodName := ⟨R_Model, "count", "()I"⟩
abbrev b_Model_get : ByteArray := prog_6_method_6_code
def y_Model_get : MethodName := ⟨R_Model, "get", "(I)J"⟩
abbrev b_Model_write : ByteArray := prog_6_method_12_code
def y_Model_write : MethodName := ⟨R_Model, "write", "()I"⟩
abbrev b_Model_addVarint : ByteArray := prog_6_method_8_code
def y_Model_addVarint : MethodName := ⟨R_Model, "addVarint", "(J)V"⟩
abbrev b_Model_add : ByteArray := prog_6_method_7_code
def y_Model_add : MethodName := ⟨R_Model, "add", "(I)V"⟩
abbrev b_Model_zigzag : ByteArray := prog_6_method_9_code
def y_Model_zigzag : MethodName := ⟨R_Model, "zigzag", "(J)J"⟩
abbrev b_Model_difference : ByteArray := prog_6_method_11_code
def y_Model_difference : MethodName := ⟨R_Model, "difference", "(I)J"⟩
abbrev b_Model_read : ByteArray := prog_6_method_18_code
def y_Model_read : MethodName := ⟨R_Model, "read", "()I"⟩
abbrev b_Model_varint : ByteArray := prog_6_method_15_code
def y_Model_varint : MethodName := ⟨R_Model, "varint", "()J"⟩
abbrev b_Model_next : ByteArray := prog_6_method_14_code
def y_Model_next : MethodName := ⟨R_Model, "next", "()I"⟩
abbrev b_Model_fail : ByteArray := prog_6_method_13_code
def y_Model_fail : MethodName := ⟨R_Model, "fail", "(II)V"⟩
abbrev b_Model_unzigzag : ByteArray := prog_6_method_10_code
def y_Model_unzigzag : MethodName := ⟨R_Model, "unzigzag", "(J)J"⟩
abbrev b_Model_readBlock : ByteArray := prog_6_method_17_code
def y_Model_readBlock : MethodName := ⟨R_Model, "readBlock", "(III)V"⟩
abbrev b_Model_inPart : ByteArray := prog_6_method_16_code
def y_Model_inPart : MethodName := ⟨R_Model, "inPart", "(II)I"⟩
abbrev b_Model_place : ByteArray := prog_6_method_19_code
def y_Model_place : MethodName := ⟨R_Model, "place", "()I"⟩
abbrev b_Model_size : ByteArray := prog_6_method_20_code
def y_Model_size : MethodName := ⟨R_Model, "size", "()I"⟩
abbrev b_Model_byteAt : ByteArray := prog_6_method_21_code
def y_Model_byteAt : MethodName := ⟨R_Model, "byteAt", "(I)I"⟩
abbrev b_Model_setByte : ByteArray := prog_6_method_22_code
def y_Model_setByte : MethodName := ⟨R_Model, "setByte", "(II)Z"⟩
abbrev b_Model_append : ByteArray := prog_6_method_23_code
def y_Model_append : MethodName := ⟨R_Model, "append", "(I)Z"⟩
abbrev b_Model_cut : ByteArray := prog_6_method_24_code
def y_Model_cut : MethodName := ⟨R_Model, "cut", "(I)Z"⟩
abbrev b_Model_blocks : ByteArray := prog_6_method_25_code
def y_Model_blocks : MethodName := ⟨R_Model, "blocks", "()I"⟩
abbrev b_Model_least : ByteArray := prog_6_method_26_code
def y_Model_least : MethodName := ⟨R_Model, "least", "(I)J"⟩
abbrev b_Model_width : ByteArray := prog_6_method_27_code
def y_Model_width : MethodName := ⟨R_Model, "width", "(II)I"⟩
abbrev b_Model_start : ByteArray := prog_6_method_28_code
def y_Model_start : MethodName := ⟨R_Model, "start", "(II)I"⟩
abbrev b_law_law : ByteArray := code
abbrev classes : List vw_C := [(R_ByteRow, F_ByteRow, 2), (R_Layout, F_Layout, 4), (R_Scan, F_Scan, 6), (R_DeltaRows, F_DeltaRows, 6), (R_Model, F_Model, 16)]
/-- the words that a call keeps -/
def zW : List Cond := lw_tbl.filter goodWord
theorem zW_good : ∀ w ∈ zW, goodWord w = true := fun _ h => (List.mem_filter.mp h).2
theorem zW_at {w : Cond} (i : Nat) (h : lw_tbl[i]? = some w) (hg : goodWord w = true) : w ∈ zW := List.mem_filter.mpr ⟨List.mem_of_getElem? h, hg⟩
def zNest : List Cond := [.methodLinkNest R_Scan 67 y_DeltaRows_unzigzag "DeltaRows", .methodLinkNest R_Scan 35 y_DeltaRows_blocksFor "DeltaRows", .methodLinkNest R_Scan 92 y_DeltaRows_partEdge "DeltaRows", .methodLinkNest R_Scan 100 y_DeltaRows_partBytes "DeltaRows"]
theorem zNest_on : ∀ w ∈ zNest, w.onTables = true := by
  intro w hw
  simp only [zNest, List.mem_cons, List.not_mem_nil, or_false] at hw
  rcases hw with rfl | rfl | rfl | rfl <;> rfl
theorem zNest_warm {s U : State} (hW : s.WarmedH U.vm) (h : ∀ w ∈ zNest, va_Nw w s) : ∀ w ∈ zNest, va_Nw w U := by
  intro w hw
  have h1 := h w hw
  simp only [zNest, List.mem_cons, List.not_mem_nil, or_false] at hw
  rcases hw with rfl | rfl | rfl | rfl <;> exact va_Nw.warmM hW h1
theorem zNest_in0 : zNest[0]? = lw_tbl[268]? := by decide +kernel
theorem zNest_in1 : zNest[1]? = lw_tbl[271]? := by decide +kernel
theorem zNest_in2 : zNest[2]? = lw_tbl[280]? := by decide +kernel
theorem zNest_in3 : zNest[3]? = lw_tbl[289]? := by decide +kernel
abbrev zT (cI cJ : ClassId) : List (ClassId × FieldType) := [(cI, .int), (cJ, .long)]
end
section
section ZWD
variable {args : Array Value} {s : State}
theorem kw_law_7 (hts : ∀ w ∈ zW, w.before args s = true) : (Cond.classLink "DeltaRowsLaw" 7 R_DeltaRows).before args s = true := hts _ (zW_at 32 (by decide +kernel) rfl)
theorem kn_DeltaRows_1 (hts : ∀ w ∈ zW, w.before args s = true) : (Cond.instantiable R_DeltaRows 6).before args s = true := hts _ (zW_at 33 (by decide +kernel) rfl)
theorem kn_DeltaRows_2 (hts : ∀ w ∈ zW, w.before args s = true) : (Cond.initialized R_DeltaRows).before args s = true := hts _ (zW_at 24 (by decide +kernel) rfl)
theorem kw_DeltaRows_3 (hts : ∀ w ∈ zW, w.before args s = true) : (Cond.methodLink R_DeltaRows 3 objectInit).before args s = true := hts _ (zW_at 37 (by decide +kernel) rfl)
theorem kw_DeltaRows_17 (hts : ∀ w ∈ zW, w.before args s = true) : (Cond.classLink R_DeltaRows 17 R_ByteRow).before args s = true := hts _ (zW_at 40 (by decide +kernel) rfl)
theorem kn_ByteRow_1 (hts : ∀ w ∈ zW, w.before args s = true) : (Cond.instantiable R_ByteRow 2).before args s = true := hts _ (zW_at 41 (by decide +kernel) rfl)
theorem kn_ByteRow_2 (hts : ∀ w ∈ zW, w.before args s = true) : (Cond.initialized R_ByteRow).before args s = true := hts _ (zW_at 25 (by decide +kernel) rfl)
theorem kw_ByteRow_3 (hts : ∀ w ∈ zW, w.before args s = true) : (Cond.methodLink R_ByteRow 3 objectInit).before args s = true := hts _ (zW_at 45 (by decide +kernel) rfl)
theorem kf_ByteRow_9 (hts : ∀ w ∈ zW, w.before args s = true) : (Cond.fieldLink R_ByteRow 9 "DeltaRows$ByteRow" "words" "[J").before args s = true := hts _ (zW_at 46 (by decide +kernel) rfl)
theorem kf_ByteRow_15 (hts : ∀ w ∈ zW, w.before args s = true) : (Cond.fieldLink R_ByteRow 15 "DeltaRows$ByteRow" "used" "I").before args s = true := hts _ (zW_at 47 (by decide +kernel) rfl)
theorem kf_Scan_52 (hts : ∀ w ∈ zW, w.before args s = true) : (Cond.fieldLink R_Scan 52 "DeltaRows$ByteRow" "used" "I").before args s = true := hts _ (zW_at 48 (by decide +kernel) rfl)
theorem kf_DeltaRows_65 (hts : ∀ w ∈ zW, w.before args s = true) : (Cond.fieldLink R_DeltaRows 65 "DeltaRows$ByteRow" "used" "I").before args s = true := hts _ (zW_at 49 (by decide +kernel) rfl)
theorem ka_long (hts : ∀ w ∈ zW, w.before args s = true) : (Cond.arrayClass (newarray.typeOf .long)).before args s = true := hts _ (zW_at 55 (by decide +kernel) rfl)
theorem kw_DeltaRows_24 (hts : ∀ w ∈ zW, w.before args s = true) : (Cond.classLink R_DeltaRows 24 R_Scan).before args s = true := hts _ (zW_at 56 (by decide +kernel) rfl)
theorem kn_Scan_1 (hts : ∀ w ∈ zW, w.before args s = true) : (Cond.instantiable R_Scan 6).before args s = true := hts _ (zW_at 57 (by decide +kernel) rfl)
theorem kn_Scan_2 (hts : ∀ w ∈ zW, w.before args s = true) : (Cond.initialized R_Scan).before args s = true := hts _ (zW_at 26 (by decide +kernel) rfl)
theorem kw_Scan_3 (hts : ∀ w ∈ zW, w.before args s = true) : (Cond.methodLink R_Scan 3 objectInit).before args s = true := hts _ (zW_at 61 (by decide +kernel) rfl)
theorem kf_Scan_9 (hts : ∀ w ∈ zW, w.before args s = true) : (Cond.fieldLink R_Scan 9 "DeltaRows$Scan" "bytes" "LDeltaRows$ByteRow;").before args s = true := hts _ (zW_at 62 (by decide +kernel) rfl)
theorem kf_Scan_15 (hts : ∀ w ∈ zW, w.before args s = true) : (Cond.fieldLink R_Scan 15 "DeltaRows$Scan" "at" "I").before args s = true := hts _ (zW_at 63 (by decide +kernel) rfl)
theorem kf_Scan_19 (hts : ∀ w ∈ zW, w.before args s = true) : (Cond.fieldLink R_Scan 19 "DeltaRows$Scan" "fault" "I").before args s = true := hts _ (zW_at 64 (by decide +kernel) rfl)
theorem kf_DeltaRows_72 (hts : ∀ w ∈ zW, w.before args s = true) : (Cond.fieldLink R_DeltaRows 72 "DeltaRows$Scan" "fault" "I").before args s = true := hts _ (zW_at 65 (by decide +kernel) rfl)
theorem kf_Scan_22 (hts : ∀ w ∈ zW, w.before args s = true) : (Cond.fieldLink R_Scan 22 "DeltaRows$Scan" "faultPlace" "I").before args s = true := hts _ (zW_at 66 (by decide +kernel) rfl)
theorem kf_DeltaRows_78 (hts : ∀ w ∈ zW, w.before args s = true) : (Cond.fieldLink R_DeltaRows 78 "DeltaRows$Scan" "faultPlace" "I").before args s = true := hts _ (zW_at 67 (by decide +kernel) rfl)
theorem kf_Scan_25 (hts : ∀ w ∈ zW, w.before args s = true) : (Cond.fieldLink R_Scan 25 "DeltaRows$Scan" "total" "I").before args s = true := hts _ (zW_at 68 (by decide +kernel) rfl)
theorem kf_DeltaRows_146 (hts : ∀ w ∈ zW, w.before args s = true) : (Cond.fieldLink R_DeltaRows 146 "DeltaRows$Scan" "total" "I").before args s = true := hts _ (zW_at 69 (by decide +kernel) rfl)
theorem kf_Scan_28 (hts : ∀ w ∈ zW, w.before args s = true) : (Cond.fieldLink R_Scan 28 "DeltaRows$Scan" "first" "J").before args s = true := hts _ (zW_at 70 (by decide +kernel) rfl)
theorem kf_DeltaRows_149 (hts : ∀ w ∈ zW, w.before args s = true) : (Cond.fieldLink R_DeltaRows 149 "DeltaRows$Scan" "first" "J").before args s = true := hts _ (zW_at 71 (by decide +kernel) rfl)
theorem kw_DeltaRows_33 (hts : ∀ w ∈ zW, w.before args s = true) : (Cond.classLink R_DeltaRows 33 R_Layout).before args s = true := hts _ (zW_at 85 (by decide +kernel) rfl)
theorem kn_Layout_1 (hts : ∀ w ∈ zW, w.before args s = true) : (Cond.instantiable R_Layout 4).before args s = true := hts _ (zW_at 86 (by decide +kernel) rfl)
theorem kn_Layout_2 (hts : ∀ w ∈ zW, w.before args s = true) : (Cond.initialized R_Layout).before args s = true := hts _ (zW_at 27 (by decide +kernel) rfl)
theorem kw_Layout_3 (hts : ∀ w ∈ zW, w.before args s = true) : (Cond.methodLink R_Layout 3 objectInit).before args s = true := hts _ (zW_at 90 (by decide +kernel) rfl)
theorem kf_Layout_9 (hts : ∀ w ∈ zW, w.before args s = true) : (Cond.fieldLink R_Layout 9 "DeltaRows$Layout" "blockCount" "I").before args s = true := hts _ (zW_at 91 (by decide +kernel) rfl)
theorem kf_Scan_39 (hts : ∀ w ∈ zW, w.before args s = true) : (Cond.fieldLink R_Scan 39 "DeltaRows$Layout" "blockCount" "I").before args s = true := hts _ (zW_at 92 (by decide +kernel) rfl)
theorem kf_DeltaRows_59 (hts : ∀ w ∈ zW, w.before args s = true) : (Cond.fieldLink R_DeltaRows 59 "DeltaRows$Layout" "blockCount" "I").before args s = true := hts _ (zW_at 93 (by decide +kernel) rfl)
theorem kf_Layout_15 (hts : ∀ w ∈ zW, w.before args s = true) : (Cond.fieldLink R_Layout 15 "DeltaRows$Layout" "leasts" "[J").before args s = true := hts _ (zW_at 94 (by decide +kernel) rfl)
theorem kf_Scan_71 (hts : ∀ w ∈ zW, w.before args s = true) : (Cond.fieldLink R_Scan 71 "DeltaRows$Layout" "leasts" "[J").before args s = true := hts _ (zW_at 95 (by decide +kernel) rfl)
theorem kf_DeltaRows_98 (hts : ∀ w ∈ zW, w.before args s = true) : (Cond.fieldLink R_DeltaRows 98 "DeltaRows$Layout" "leasts" "[J").before args s = true := hts _ (zW_at 96 (by decide +kernel) rfl)
theorem kf_Layout_19 (hts : ∀ w ∈ zW, w.before args s = true) : (Cond.fieldLink R_Layout 19 "DeltaRows$Layout" "widths" "[I").before args s = true := hts _ (zW_at 97 (by decide +kernel) rfl)
theorem kf_Scan_75 (hts : ∀ w ∈ zW, w.before args s = true) : (Cond.fieldLink R_Scan 75 "DeltaRows$Layout" "widths" "[I").before args s = true := hts _ (zW_at 98 (by decide +kernel) rfl)
theorem kf_DeltaRows_105 (hts : ∀ w ∈ zW, w.before args s = true) : (Cond.fieldLink R_DeltaRows 105 "DeltaRows$Layout" "widths" "[I").before args s = true := hts _ (zW_at 99 (by decide +kernel) rfl)
theorem kf_Layout_23 (hts : ∀ w ∈ zW, w.before args s = true) : (Cond.fieldLink R_Layout 23 "DeltaRows$Layout" "starts" "[I").before args s = true := hts _ (zW_at 100 (by decide +kernel) rfl)
theorem kf_Scan_86 (hts : ∀ w ∈ zW, w.before args s = true) : (Cond.fieldLink R_Scan 86 "DeltaRows$Layout" "starts" "[I").before args s = true := hts _ (zW_at 101 (by decide +kernel) rfl)
theorem kf_DeltaRows_109 (hts : ∀ w ∈ zW, w.before args s = true) : (Cond.fieldLink R_DeltaRows 109 "DeltaRows$Layout" "starts" "[I").before args s = true := hts _ (zW_at 102 (by decide +kernel) rfl)
theorem ka_int (hts : ∀ w ∈ zW, w.before args s = true) : (Cond.arrayClass (newarray.typeOf .int)).before args s = true := hts _ (zW_at 112 (by decide +kernel) rfl)
theorem kf_DeltaRows_9 (hts : ∀ w ∈ zW, w.before args s = true) : (Cond.fieldLink R_DeltaRows 9 "DeltaRows" "row" "[J").before args s = true := hts _ (zW_at 113 (by decide +kernel) rfl)
theorem kf_DeltaRows_13 (hts : ∀ w ∈ zW, w.before args s = true) : (Cond.fieldLink R_DeltaRows 13 "DeltaRows" "rowCount" "I").before args s = true := hts _ (zW_at 114 (by decide +kernel) rfl)
theorem kf_DeltaRows_20 (hts : ∀ w ∈ zW, w.before args s = true) : (Cond.fieldLink R_DeltaRows 20 "DeltaRows" "bytes" "LDeltaRows$ByteRow;").before args s = true := hts _ (zW_at 115 (by decide +kernel) rfl)
theorem kf_DeltaRows_29 (hts : ∀ w ∈ zW, w.before args s = true) : (Cond.fieldLink R_DeltaRows 29 "DeltaRows" "scan" "LDeltaRows$Scan;").before args s = true := hts _ (zW_at 116 (by decide +kernel) rfl)
theorem kf_DeltaRows_36 (hts : ∀ w ∈ zW, w.before args s = true) : (Cond.fieldLink R_DeltaRows 36 "DeltaRows" "layout" "LDeltaRows$Layout;").before args s = true := hts _ (zW_at 117 (by decide +kernel) rfl)
theorem kf_DeltaRows_40 (hts : ∀ w ∈ zW, w.before args s = true) : (Cond.fieldLink R_DeltaRows 40 "DeltaRows" "spareLayout" "LDeltaRows$Layout;").before args s = true := hts _ (zW_at 118 (by decide +kernel) rfl)
theorem kc_ByteRow_31 (hts : ∀ w ∈ zW, w.before args s = true) : (Cond.constantLong R_ByteRow 31 (-128 : Int64)).before args s = true := hts _ (zW_at 160 (by decide +kernel) rfl)
theorem kc_ByteRow_33 (hts : ∀ w ∈ zW, w.before args s = true) : (Cond.constantLong R_ByteRow 33 (127 : Int64)).before args s = true := hts _ (zW_at 161 (by decide +kernel) rfl)
theorem kc_ByteRow_49 (hts : ∀ w ∈ zW, w.before args s = true) : (Cond.constant R_ByteRow 49 (160000 : Int32)).before args s = true := hts _ (zW_at 178 (by decide +kernel) rfl)
theorem kc_ByteRow_47 (hts : ∀ w ∈ zW, w.before args s = true) : (Cond.constantLong R_ByteRow 47 (-1 : Int64)).before args s = true := hts _ (zW_at 182 (by decide +kernel) rfl)
theorem kw_DeltaRows_160 (hts : ∀ w ∈ zW, w.before args s = true) : (Cond.methodLink R_DeltaRows 160 Lib.Math.min.name).before args s = true := hts _ (zW_at 200 (by decide +kernel) rfl)
theorem kw_DeltaRows_127 (hts : ∀ w ∈ zW, w.before args s = true) : (Cond.methodLink R_DeltaRows 127 Lib.MathLoose.min_long.x).before args s = true := hts _ (zW_at 203 (by decide +kernel) rfl)
theorem kc_Integer_264 (hts : ∀ w ∈ zW, w.before args s = true) : (Cond.constant R_Integer 264 (65536 : Int32)).before args s = true := hts _ (zW_at 216 (by decide +kernel) rfl)
theorem kc_Scan_107 (hts : ∀ w ∈ zW, w.before args s = true) : (Cond.constantLong R_Scan 107 (127 : Int64)).before args s = true := hts _ (zW_at 266 (by decide +kernel) rfl)
theorem kc_Scan_65 (hts : ∀ w ∈ zW, w.before args s = true) : (Cond.constantLong R_Scan 65 (2000 : Int64)).before args s = true := hts _ (zW_at 267 (by decide +kernel) rfl)
theorem kw_law_10 (hts : ∀ w ∈ zW, w.before args s = true) : (Cond.classLink "DeltaRowsLaw" 10 R_Model).before args s = true := hts _ (zW_at 352 (by decide +kernel) rfl)
theorem kn_Model_1 (hts : ∀ w ∈ zW, w.before args s = true) : (Cond.instantiable R_Model 16).before args s = true := hts _ (zW_at 353 (by decide +kernel) rfl)
theorem kn_Model_2 (hts : ∀ w ∈ zW, w.before args s = true) : (Cond.initialized R_Model).before args s = true := hts _ (zW_at 28 (by decide +kernel) rfl)
theorem kw_Model_1 (hts : ∀ w ∈ zW, w.before args s = true) : (Cond.methodLink R_Model 1 objectInit).before args s = true := hts _ (zW_at 357 (by decide +kernel) rfl)
theorem kf_Model_42 (hts : ∀ w ∈ zW, w.before args s = true) : (Cond.fieldLink R_Model 42 "DeltaRowsModel" "code" "I").before args s = true := hts _ (zW_at 358 (by decide +kernel) rfl)
theorem kf_Model_7 (hts : ∀ w ∈ zW, w.before args s = true) : (Cond.fieldLink R_Model 7 "DeltaRowsModel" "row" "[J").before args s = true := hts _ (zW_at 359 (by decide +kernel) rfl)
theorem kf_Model_13 (hts : ∀ w ∈ zW, w.before args s = true) : (Cond.fieldLink R_Model 13 "DeltaRowsModel" "spare" "[J").before args s = true := hts _ (zW_at 360 (by decide +kernel) rfl)
theorem kf_Model_45 (hts : ∀ w ∈ zW, w.before args s = true) : (Cond.fieldLink R_Model 45 "DeltaRowsModel" "count" "I").before args s = true := hts _ (zW_at 361 (by decide +kernel) rfl)
theorem kf_Model_16 (hts : ∀ w ∈ zW, w.before args s = true) : (Cond.fieldLink R_Model 16 "DeltaRowsModel" "bytes" "[I").before args s = true := hts _ (zW_at 362 (by decide +kernel) rfl)
theorem kf_Model_48 (hts : ∀ w ∈ zW, w.before args s = true) : (Cond.fieldLink R_Model 48 "DeltaRowsModel" "size" "I").before args s = true := hts _ (zW_at 363 (by decide +kernel) rfl)
theorem kf_Model_20 (hts : ∀ w ∈ zW, w.before args s = true) : (Cond.fieldLink R_Model 20 "DeltaRowsModel" "place" "I").before args s = true := hts _ (zW_at 364 (by decide +kernel) rfl)
theorem kf_Model_24 (hts : ∀ w ∈ zW, w.before args s = true) : (Cond.fieldLink R_Model 24 "DeltaRowsModel" "leasts" "[J").before args s = true := hts _ (zW_at 365 (by decide +kernel) rfl)
theorem kf_Model_27 (hts : ∀ w ∈ zW, w.before args s = true) : (Cond.fieldLink R_Model 27 "DeltaRowsModel" "newLeasts" "[J").before args s = true := hts _ (zW_at 366 (by decide +kernel) rfl)
theorem kf_Model_30 (hts : ∀ w ∈ zW, w.before args s = true) : (Cond.fieldLink R_Model 30 "DeltaRowsModel" "widths" "[I").before args s = true := hts _ (zW_at 367 (by decide +kernel) rfl)
theorem kf_Model_33 (hts : ∀ w ∈ zW, w.before args s = true) : (Cond.fieldLink R_Model 33 "DeltaRowsModel" "starts" "[I").before args s = true := hts _ (zW_at 368 (by decide +kernel) rfl)
theorem kf_Model_36 (hts : ∀ w ∈ zW, w.before args s = true) : (Cond.fieldLink R_Model 36 "DeltaRowsModel" "newWidths" "[I").before args s = true := hts _ (zW_at 369 (by decide +kernel) rfl)
theorem kf_Model_39 (hts : ∀ w ∈ zW, w.before args s = true) : (Cond.fieldLink R_Model 39 "DeltaRowsModel" "newStarts" "[I").before args s = true := hts _ (zW_at 370 (by decide +kernel) rfl)
theorem kf_Model_61 (hts : ∀ w ∈ zW, w.before args s = true) : (Cond.fieldLink R_Model 61 "DeltaRowsModel" "blocks" "I").before args s = true := hts _ (zW_at 371 (by decide +kernel) rfl)
theorem kf_Model_79 (hts : ∀ w ∈ zW, w.before args s = true) : (Cond.fieldLink R_Model 79 "DeltaRowsModel" "at" "I").before args s = true := hts _ (zW_at 372 (by decide +kernel) rfl)
theorem kf_Model_76 (hts : ∀ w ∈ zW, w.before args s = true) : (Cond.fieldLink R_Model 76 "DeltaRowsModel" "fault" "I").before args s = true := hts _ (zW_at 373 (by decide +kernel) rfl)
theorem kc_Model_51 (hts : ∀ w ∈ zW, w.before args s = true) : (Cond.constantLong R_Model 51 (127 : Int64)).before args s = true := hts _ (zW_at 431 (by decide +kernel) rfl)
theorem kc_Model_57 (hts : ∀ w ∈ zW, w.before args s = true) : (Cond.constantLong R_Model 57 (-2 : Int64)).before args s = true := hts _ (zW_at 439 (by decide +kernel) rfl)
theorem kc_Model_59 (hts : ∀ w ∈ zW, w.before args s = true) : (Cond.constantLong R_Model 59 (2 : Int64)).before args s = true := hts _ (zW_at 440 (by decide +kernel) rfl)
theorem kc_Model_101 (hts : ∀ w ∈ zW, w.before args s = true) : (Cond.constantLong R_Model 101 (2000 : Int64)).before args s = true := hts _ (zW_at 461 (by decide +kernel) rfl)
theorem kc_law_13 (hts : ∀ w ∈ zW, w.before args s = true) : (Cond.constantLong "DeltaRowsLaw" 13 (4294967295 : Int64)).before args s = true := hts _ (zW_at 512 (by decide +kernel) rfl)
theorem ko_1 (hts : ∀ w ∈ zW, w.before args s = true) : (Cond.instanceMethod objectInit).before args s = true := hts _ (zW_at 38 (by decide +kernel) rfl)
set_option maxRecDepth 100000 in
theorem ko_2 (hts : ∀ w ∈ zW, w.before args s = true) : (Cond.code objectInit ⟨#[0xb1]⟩ 1 none).before args s = true := hts _ (zW_at 39 rfl rfl)
theorem km_0 (hts : ∀ w ∈ zW, w.before args s = true) : (Cond.initialized "java/lang/Math").before args s = true := hts _ (zW_at 29 (by decide +kernel) rfl)
theorem km_minI_1 (hts : ∀ w ∈ zW, w.before args s = true) : (Cond.static Lib.Math.min.name).before args s = true := hts _ (zW_at 201 (by decide +kernel) rfl)
set_option maxRecDepth 100000 in
theorem km_minI_2 (hts : ∀ w ∈ zW, w.before args s = true) : (Cond.code Lib.Math.min.name Lib.Math.min.code 2 (some .int)).before args s = true := hts _ (zW_at 202 rfl rfl)
theorem km_minJ_1 (hts : ∀ w ∈ zW, w.before args s = true) : (Cond.static Lib.MathLoose.min_long.x).before args s = true := hts _ (zW_at 204 (by decide +kernel) rfl)
set_option maxRecDepth 100000 in
theorem km_minJ_2 (hts : ∀ w ∈ zW, w.before args s = true) : (Cond.code Lib.MathLoose.min_long.x Lib.MathLoose.min_long.code 4 (some .long)).before args s = true := hts _ (zW_at 205 rfl rfl)
end ZWD
theorem i_ByteRow : ∀ w ∈ u_ws R_ByteRow F_ByteRow 2, w ∈ zW := by
  intro w hw
  obtain ⟨k, hk, rfl⟩ := List.mem_map.mp hw
  have hk := List.mem_range.mp hk
  rcases (show k = 0 ∨ k = 1 by omega) with rfl | rfl
  · exact zW_at 50 (by decide +kernel) rfl
  · exact zW_at 52 (by decide +kernel) rfl
theorem i_Layout : ∀ w ∈ u_ws R_Layout F_Layout 4, w ∈ zW := by
  intro w hw
  obtain ⟨k, hk, rfl⟩ := List.mem_map.mp hw
  have hk := List.mem_range.mp hk
  rcases (show k = 0 ∨ k = 1 ∨ k = 2 ∨ k = 3 by omega) with rfl | rfl | rfl | rfl
  · exact zW_at 103 (by decide +kernel) rfl
  · exact zW_at 105 (by decide +kernel) rfl
  · exact zW_at 107 (by decide +kernel) rfl
  · exact zW_at 109 (by decide +kernel) rfl
theorem i_Scan : ∀ w ∈ u_ws R_Scan F_Scan 6, w ∈ zW := by
  intro w hw
  obtain ⟨k, hk, rfl⟩ := List.mem_map.mp hw
  have hk := List.mem_range.mp hk
  rcases (show k = 0 ∨ k = 1 ∨ k = 2 ∨ k = 3 ∨ k = 4 ∨ k = 5 by omega) with rfl | rfl | rfl | rfl | rfl | rfl
  · exact zW_at 72 (by decide +kernel) rfl
  · exact zW_at 74 (by decide +kernel) rfl
  · exact zW_at 76 (by decide +kernel) rfl
  · exact zW_at 78 (by decide +kernel) rfl
  · exact zW_at 80 (by decide +kernel) rfl
  · exact zW_at 82 (by decide +kernel) rfl
theorem i_DeltaRows : ∀ w ∈ u_ws R_DeltaRows F_DeltaRows 6, w ∈ zW := by
  intro w hw
  obtain ⟨k, hk, rfl⟩ := List.mem_map.mp hw
  have hk := List.mem_range.mp hk
  rcases (show k = 0 ∨ k = 1 ∨ k = 2 ∨ k = 3 ∨ k = 4 ∨ k = 5 by omega) with rfl | rfl | rfl | rfl | rfl | rfl
  · exact zW_at 119 (by decide +kernel) rfl
  · exact zW_at 121 (by decide +kernel) rfl
  · exact zW_at 123 (by decide +kernel) rfl
  · exact zW_at 125 (by decide +kernel) rfl
  · exact zW_at 127 (by decide +kernel) rfl
  · exact zW_at 129 (by decide +kernel) rfl
theorem i_Model : ∀ w ∈ u_ws R_Model F_Model 16, w ∈ zW := by
  intro w hw
  obtain ⟨k, hk, rfl⟩ := List.mem_map.mp hw
  have hk := List.mem_range.mp hk
  rcases (show k = 0 ∨ k = 1 ∨ k = 2 ∨ k = 3 ∨ k = 4 ∨ k = 5 ∨ k = 6 ∨ k = 7 ∨ k = 8 ∨ k = 9 ∨ k = 10 ∨ k = 11 ∨ k = 12 ∨ k = 13 ∨ k = 14 ∨ k = 15 by omega) with rfl | rfl | rfl | rfl | rfl | rfl | rfl | rfl | rfl | rfl | rfl | rfl | rfl | rfl | rfl | rfl
  · exact zW_at 374 (by decide +kernel) rfl
  · exact zW_at 376 (by decide +kernel) rfl
  · exact zW_at 378 (by decide +kernel) rfl
  · exact zW_at 380 (by decide +kernel) rfl
  · exact zW_at 382 (by decide +kernel) rfl
  · exact zW_at 384 (by decide +kernel) rfl
  · exact zW_at 386 (by decide +kernel) rfl
  · exact zW_at 388 (by decide +kernel) rfl
  · exact zW_at 390 (by decide +kernel) rfl
  · exact zW_at 392 (by decide +kernel) rfl
  · exact zW_at 394 (by decide +kernel) rfl
  · exact zW_at 396 (by decide +kernel) rfl
  · exact zW_at 398 (by decide +kernel) rfl
  · exact zW_at 400 (by decide +kernel) rfl
  · exact zW_at 402 (by decide +kernel) rfl
  · exact zW_at 404 (by decide +kernel) rfl
end
section
theorem d_ByteRow_init_0 : decode b_ByteRow_init 0 = .ok (.aload_n 0, 1) := by decide +kernel
theorem d_ByteRow_init_1 : decode b_ByteRow_init 1 = .ok (.invokespecial 3, 3) := by decide +kernel
theorem d_ByteRow_init_4 : decode b_ByteRow_init 4 = .ok (.aload_n 0, 1) := by decide +kernel
theorem d_ByteRow_init_5 : decode b_ByteRow_init 5 = .ok (.sipush 2500, 3) := by decide +kernel
theorem d_ByteRow_init_8 : decode b_ByteRow_init 8 = .ok (.newarray .long, 2) := by decide +kernel
theorem d_ByteRow_init_10 : decode b_ByteRow_init 10 = .ok (.putfield 9, 3) := by decide +kernel
theorem d_ByteRow_init_13 : decode b_ByteRow_init 13 = .ok (.aload_n 0, 1) := by decide +kernel
theorem d_ByteRow_init_14 : decode b_ByteRow_init 14 = .ok (.iconst 0, 1) := by decide +kernel
theorem d_ByteRow_init_15 : decode b_ByteRow_init 15 = .ok (.putfield 15, 3) := by decide +kernel
theorem d_ByteRow_init_18 : decode b_ByteRow_init 18 = .ok (.return_, 1) := by decide +kernel
theorem d_ByteRow_has_0 : decode b_ByteRow_has 0 = .ok (.iload_n 1, 1) := by decide +kernel
theorem d_ByteRow_has_1 : decode b_ByteRow_has 1 = .ok (.ifCond .lt 15, 3) := by decide +kernel
theorem d_ByteRow_has_4 : decode b_ByteRow_has 4 = .ok (.iload_n 1, 1) := by decide +kernel
theorem d_ByteRow_has_5 : decode b_ByteRow_has 5 = .ok (.aload_n 0, 1) := by decide +kernel
theorem d_ByteRow_has_6 : decode b_ByteRow_has 6 = .ok (.getfield 15, 3) := by decide +kernel
theorem d_ByteRow_has_9 : decode b_ByteRow_has 9 = .ok (.if_icmp .ge 7, 3) := by decide +kernel
theorem d_ByteRow_has_12 : decode b_ByteRow_has 12 = .ok (.iconst 1, 1) := by decide +kernel
theorem d_ByteRow_has_13 : decode b_ByteRow_has 13 = .ok (.goto 4, 3) := by decide +kernel
theorem d_ByteRow_has_16 : decode b_ByteRow_has 16 = .ok (.iconst 0, 1) := by decide +kernel
theorem d_ByteRow_has_17 : decode b_ByteRow_has 17 = .ok (.ireturn, 1) := by decide +kernel
theorem d_ByteRow_byteIn_0 : decode b_ByteRow_byteIn 0 = .ok (.aload_n 0, 1) := by decide +kernel
theorem d_ByteRow_byteIn_1 : decode b_ByteRow_byteIn 1 = .ok (.iload_n 1, 1) := by decide +kernel
theorem d_ByteRow_byteIn_2 : decode b_ByteRow_byteIn 2 = .ok (.bipush 8, 2) := by decide +kernel
theorem d_ByteRow_byteIn_4 : decode b_ByteRow_byteIn 4 = .ok (.imul, 1) := by decide +kernel
theorem d_ByteRow_byteIn_5 : decode b_ByteRow_byteIn 5 = .ok (.bipush 8, 2) := by decide +kernel
theorem d_ByteRow_byteIn_7 : decode b_ByteRow_byteIn 7 = .ok (.invokevirtual 19, 3) := by decide +kernel
theorem d_ByteRow_byteIn_10 : decode b_ByteRow_byteIn 10 = .ok (.l2i, 1) := by decide +kernel
theorem d_ByteRow_byteIn_11 : decode b_ByteRow_byteIn 11 = .ok (.ireturn, 1) := by decide +kernel
theorem d_ByteRow_change_0 : decode b_ByteRow_change 0 = .ok (.aload_n 0, 1) := by decide +kernel
theorem d_ByteRow_change_1 : decode b_ByteRow_change 1 = .ok (.iload_n 1, 1) := by decide +kernel
theorem d_ByteRow_change_2 : decode b_ByteRow_change 2 = .ok (.bipush 8, 2) := by decide +kernel
theorem d_ByteRow_change_4 : decode b_ByteRow_change 4 = .ok (.imul, 1) := by decide +kernel
theorem d_ByteRow_change_5 : decode b_ByteRow_change 5 = .ok (.bipush 8, 2) := by decide +kernel
theorem d_ByteRow_change_7 : decode b_ByteRow_change 7 = .ok (.iload_n 2, 1) := by decide +kernel
theorem d_ByteRow_change_8 : decode b_ByteRow_change 8 = .ok (.i2l, 1) := by decide +kernel
theorem d_ByteRow_change_9 : decode b_ByteRow_change 9 = .ok (.invokevirtual 23, 3) := by decide +kernel
theorem d_ByteRow_change_12 : decode b_ByteRow_change 12 = .ok (.return_, 1) := by decide +kernel
theorem d_ByteRow_add_0 : decode b_ByteRow_add 0 = .ok (.aload_n 0, 1) := by decide +kernel
theorem d_ByteRow_add_1 : decode b_ByteRow_add 1 = .ok (.getfield 15, 3) := by decide +kernel
theorem d_ByteRow_add_4 : decode b_ByteRow_add 4 = .ok (.sipush 20000, 3) := by decide +kernel
theorem d_ByteRow_add_7 : decode b_ByteRow_add 7 = .ok (.if_icmp .lt 5, 3) := by decide +kernel
theorem d_ByteRow_add_10 : decode b_ByteRow_add 10 = .ok (.iconst 0, 1) := by decide +kernel
theorem d_ByteRow_add_11 : decode b_ByteRow_add 11 = .ok (.ireturn, 1) := by decide +kernel
theorem d_ByteRow_add_12 : decode b_ByteRow_add 12 = .ok (.aload_n 0, 1) := by decide +kernel
theorem d_ByteRow_add_13 : decode b_ByteRow_add 13 = .ok (.aload_n 0, 1) := by decide +kernel
theorem d_ByteRow_add_14 : decode b_ByteRow_add 14 = .ok (.getfield 15, 3) := by decide +kernel
theorem d_ByteRow_add_17 : decode b_ByteRow_add 17 = .ok (.iload_n 1, 1) := by decide +kernel
theorem d_ByteRow_add_18 : decode b_ByteRow_add 18 = .ok (.invokevirtual 27, 3) := by decide +kernel
theorem d_ByteRow_add_21 : decode b_ByteRow_add 21 = .ok (.aload_n 0, 1) := by decide +kernel
theorem d_ByteRow_add_22 : decode b_ByteRow_add 22 = .ok (.dup, 1) := by decide +kernel
theorem d_ByteRow_add_23 : decode b_ByteRow_add 23 = .ok (.getfield 15, 3) := by decide +kernel
theorem d_ByteRow_add_26 : decode b_ByteRow_add 26 = .ok (.iconst 1, 1) := by decide +kernel
theorem d_ByteRow_add_27 : decode b_ByteRow_add 27 = .ok (.iadd, 1) := by decide +kernel
theorem d_ByteRow_add_28 : decode b_ByteRow_add 28 = .ok (.putfield 15, 3) := by decide +kernel
theorem d_ByteRow_add_31 : decode b_ByteRow_add 31 = .ok (.iconst 1, 1) := by decide +kernel
theorem d_ByteRow_add_32 : decode b_ByteRow_add 32 = .ok (.ireturn, 1) := by decide +kernel
theorem d_ByteRow_addVarint_0 : decode b_ByteRow_addVarint 0 = .ok (.lload_n 1, 1) := by decide +kernel
theorem d_ByteRow_addVarint_1 : decode b_ByteRow_addVarint 1 = .ok (.lstore_n 3, 1) := by decide +kernel
theorem d_ByteRow_addVarint_2 : decode b_ByteRow_addVarint 2 = .ok (.iconst 1, 1) := by decide +kernel
theorem d_ByteRow_addVarint_3 : decode b_ByteRow_addVarint 3 = .ok (.istore 5, 2) := by decide +kernel
theorem d_ByteRow_addVarint_5 : decode b_ByteRow_addVarint 5 = .ok (.iload 5, 2) := by decide +kernel
theorem d_ByteRow_addVarint_7 : decode b_ByteRow_addVarint 7 = .ok (.bipush 10, 2) := by decide +kernel
theorem d_ByteRow_addVarint_9 : decode b_ByteRow_addVarint 9 = .ok (.if_icmp .ge 39, 3) := by decide +kernel
theorem d_ByteRow_addVarint_12 : decode b_ByteRow_addVarint 12 = .ok (.lload_n 3, 1) := by decide +kernel
theorem d_ByteRow_addVarint_13 : decode b_ByteRow_addVarint 13 = .ok (.ldc2_w 31, 3) := by decide +kernel
theorem d_ByteRow_addVarint_16 : decode b_ByteRow_addVarint 16 = .ok (.land, 1) := by decide +kernel
theorem d_ByteRow_addVarint_17 : decode b_ByteRow_addVarint 17 = .ok (.lconst 0, 1) := by decide +kernel
theorem d_ByteRow_addVarint_18 : decode b_ByteRow_addVarint 18 = .ok (.lcmp, 1) := by decide +kernel
theorem d_ByteRow_addVarint_19 : decode b_ByteRow_addVarint 19 = .ok (.ifCond .eq 29, 3) := by decide +kernel
theorem d_ByteRow_addVarint_22 : decode b_ByteRow_addVarint 22 = .ok (.aload_n 0, 1) := by decide +kernel
theorem d_ByteRow_addVarint_23 : decode b_ByteRow_addVarint 23 = .ok (.lload_n 3, 1) := by decide +kernel
theorem d_ByteRow_addVarint_24 : decode b_ByteRow_addVarint 24 = .ok (.ldc2_w 33, 3) := by decide +kernel
theorem d_ByteRow_addVarint_27 : decode b_ByteRow_addVarint 27 = .ok (.land, 1) := by decide +kernel
theorem d_ByteRow_addVarint_28 : decode b_ByteRow_addVarint 28 = .ok (.l2i, 1) := by decide +kernel
theorem d_ByteRow_addVarint_29 : decode b_ByteRow_addVarint 29 = .ok (.sipush 128, 3) := by decide +kernel
theorem d_ByteRow_addVarint_32 : decode b_ByteRow_addVarint 32 = .ok (.ior, 1) := by decide +kernel
theorem d_ByteRow_addVarint_33 : decode b_ByteRow_addVarint 33 = .ok (.invokevirtual 35, 3) := by decide +kernel
theorem d_ByteRow_addVarint_36 : decode b_ByteRow_addVarint 36 = .ok (.pop, 1) := by decide +kernel
theorem d_ByteRow_addVarint_37 : decode b_ByteRow_addVarint 37 = .ok (.lload_n 3, 1) := by decide +kernel
theorem d_ByteRow_addVarint_38 : decode b_ByteRow_addVarint 38 = .ok (.bipush 7, 2) := by decide +kernel
theorem d_ByteRow_addVarint_40 : decode b_ByteRow_addVarint 40 = .ok (.lushr, 1) := by decide +kernel
theorem d_ByteRow_addVarint_41 : decode b_ByteRow_addVarint 41 = .ok (.lstore_n 3, 1) := by decide +kernel
theorem d_ByteRow_addVarint_42 : decode b_ByteRow_addVarint 42 = .ok (.iinc 5 1, 3) := by decide +kernel
theorem d_ByteRow_addVarint_45 : decode b_ByteRow_addVarint 45 = .ok (.goto (-40), 3) := by decide +kernel
theorem d_ByteRow_addVarint_48 : decode b_ByteRow_addVarint 48 = .ok (.aload_n 0, 1) := by decide +kernel
theorem d_ByteRow_addVarint_49 : decode b_ByteRow_addVarint 49 = .ok (.lload_n 3, 1) := by decide +kernel
theorem d_ByteRow_addVarint_50 : decode b_ByteRow_addVarint 50 = .ok (.l2i, 1) := by decide +kernel
theorem d_ByteRow_addVarint_51 : decode b_ByteRow_addVarint 51 = .ok (.invokevirtual 35, 3) := by decide +kernel
theorem d_ByteRow_addVarint_54 : decode b_ByteRow_addVarint 54 = .ok (.pop, 1) := by decide +kernel
theorem d_ByteRow_addVarint_55 : decode b_ByteRow_addVarint 55 = .ok (.return_, 1) := by decide +kernel
theorem d_ByteRow_shorten_0 : decode b_ByteRow_shorten 0 = .ok (.aload_n 0, 1) := by decide +kernel
theorem d_ByteRow_shorten_1 : decode b_ByteRow_shorten 1 = .ok (.iload_n 1, 1) := by decide +kernel
theorem d_ByteRow_shorten_2 : decode b_ByteRow_shorten 2 = .ok (.putfield 15, 3) := by decide +kernel
theorem d_ByteRow_shorten_5 : decode b_ByteRow_shorten 5 = .ok (.return_, 1) := by decide +kernel
theorem d_ByteRow_bitsIn_0 : decode b_ByteRow_bitsIn 0 = .ok (.aload_n 0, 1) := by decide +kernel
theorem d_ByteRow_bitsIn_1 : decode b_ByteRow_bitsIn 1 = .ok (.iload_n 1, 1) := by decide +kernel
theorem d_ByteRow_bitsIn_2 : decode b_ByteRow_bitsIn 2 = .ok (.iload_n 2, 1) := by decide +kernel
theorem d_ByteRow_bitsIn_3 : decode b_ByteRow_bitsIn 3 = .ok (.invokevirtual 39, 3) := by decide +kernel
theorem d_ByteRow_bitsIn_6 : decode b_ByteRow_bitsIn 6 = .ok (.ifCond .ne 5, 3) := by decide +kernel
theorem d_ByteRow_bitsIn_9 : decode b_ByteRow_bitsIn 9 = .ok (.lconst 0, 1) := by decide +kernel
theorem d_ByteRow_bitsIn_10 : decode b_ByteRow_bitsIn 10 = .ok (.lreturn, 1) := by decide +kernel
theorem d_ByteRow_bitsIn_11 : decode b_ByteRow_bitsIn 11 = .ok (.iload_n 1, 1) := by decide +kernel
theorem d_ByteRow_bitsIn_12 : decode b_ByteRow_bitsIn 12 = .ok (.bipush 64, 2) := by decide +kernel
theorem d_ByteRow_bitsIn_14 : decode b_ByteRow_bitsIn 14 = .ok (.idiv, 1) := by decide +kernel
theorem d_ByteRow_bitsIn_15 : decode b_ByteRow_bitsIn 15 = .ok (.istore_n 3, 1) := by decide +kernel
theorem d_ByteRow_bitsIn_16 : decode b_ByteRow_bitsIn 16 = .ok (.iload_n 1, 1) := by decide +kernel
theorem d_ByteRow_bitsIn_17 : decode b_ByteRow_bitsIn 17 = .ok (.bipush 64, 2) := by decide +kernel
theorem d_ByteRow_bitsIn_19 : decode b_ByteRow_bitsIn 19 = .ok (.irem, 1) := by decide +kernel
theorem d_ByteRow_bitsIn_20 : decode b_ByteRow_bitsIn 20 = .ok (.istore 4, 2) := by decide +kernel
theorem d_ByteRow_bitsIn_22 : decode b_ByteRow_bitsIn 22 = .ok (.aload_n 0, 1) := by decide +kernel
theorem d_ByteRow_bitsIn_23 : decode b_ByteRow_bitsIn 23 = .ok (.getfield 9, 3) := by decide +kernel
theorem d_ByteRow_bitsIn_26 : decode b_ByteRow_bitsIn 26 = .ok (.iload_n 3, 1) := by decide +kernel
theorem d_ByteRow_bitsIn_27 : decode b_ByteRow_bitsIn 27 = .ok (.laload, 1) := by decide +kernel
theorem d_ByteRow_bitsIn_28 : decode b_ByteRow_bitsIn 28 = .ok (.iload 4, 2) := by decide +kernel
theorem d_ByteRow_bitsIn_30 : decode b_ByteRow_bitsIn 30 = .ok (.lushr, 1) := by decide +kernel
theorem d_ByteRow_bitsIn_31 : decode b_ByteRow_bitsIn 31 = .ok (.lstore 5, 2) := by decide +kernel
theorem d_ByteRow_bitsIn_33 : decode b_ByteRow_bitsIn 33 = .ok (.iload 4, 2) := by decide +kernel
theorem d_ByteRow_bitsIn_35 : decode b_ByteRow_bitsIn 35 = .ok (.iload_n 2, 1) := by decide +kernel
theorem d_ByteRow_bitsIn_36 : decode b_ByteRow_bitsIn 36 = .ok (.iadd, 1) := by decide +kernel
theorem d_ByteRow_bitsIn_37 : decode b_ByteRow_bitsIn 37 = .ok (.bipush 64, 2) := by decide +kernel
theorem d_ByteRow_bitsIn_39 : decode b_ByteRow_bitsIn 39 = .ok (.if_icmp .le 22, 3) := by decide +kernel
theorem d_ByteRow_bitsIn_42 : decode b_ByteRow_bitsIn 42 = .ok (.lload 5, 2) := by decide +kernel
theorem d_ByteRow_bitsIn_44 : decode b_ByteRow_bitsIn 44 = .ok (.aload_n 0, 1) := by decide +kernel
theorem d_ByteRow_bitsIn_45 : decode b_ByteRow_bitsIn 45 = .ok (.getfield 9, 3) := by decide +kernel
theorem d_ByteRow_bitsIn_48 : decode b_ByteRow_bitsIn 48 = .ok (.iload_n 3, 1) := by decide +kernel
theorem d_ByteRow_bitsIn_49 : decode b_ByteRow_bitsIn 49 = .ok (.iconst 1, 1) := by decide +kernel
theorem d_ByteRow_bitsIn_50 : decode b_ByteRow_bitsIn 50 = .ok (.iadd, 1) := by decide +kernel
theorem d_ByteRow_bitsIn_51 : decode b_ByteRow_bitsIn 51 = .ok (.laload, 1) := by decide +kernel
theorem d_ByteRow_bitsIn_52 : decode b_ByteRow_bitsIn 52 = .ok (.bipush 64, 2) := by decide +kernel
theorem d_ByteRow_bitsIn_54 : decode b_ByteRow_bitsIn 54 = .ok (.iload 4, 2) := by decide +kernel
theorem d_ByteRow_bitsIn_56 : decode b_ByteRow_bitsIn 56 = .ok (.isub, 1) := by decide +kernel
theorem d_ByteRow_bitsIn_57 : decode b_ByteRow_bitsIn 57 = .ok (.lshl, 1) := by decide +kernel
theorem d_ByteRow_bitsIn_58 : decode b_ByteRow_bitsIn 58 = .ok (.lor, 1) := by decide +kernel
theorem d_ByteRow_bitsIn_59 : decode b_ByteRow_bitsIn 59 = .ok (.lstore 5, 2) := by decide +kernel
theorem d_ByteRow_bitsIn_61 : decode b_ByteRow_bitsIn 61 = .ok (.lload 5, 2) := by decide +kernel
theorem d_ByteRow_bitsIn_63 : decode b_ByteRow_bitsIn 63 = .ok (.iload_n 2, 1) := by decide +kernel
theorem d_ByteRow_bitsIn_64 : decode b_ByteRow_bitsIn 64 = .ok (.invokestatic 43, 3) := by decide +kernel
theorem d_ByteRow_bitsIn_67 : decode b_ByteRow_bitsIn 67 = .ok (.land, 1) := by decide +kernel
theorem d_ByteRow_bitsIn_68 : decode b_ByteRow_bitsIn 68 = .ok (.lreturn, 1) := by decide +kernel
theorem d_ByteRow_setBits_0 : decode b_ByteRow_setBits 0 = .ok (.aload_n 0, 1) := by decide +kernel
theorem d_ByteRow_setBits_1 : decode b_ByteRow_setBits 1 = .ok (.iload_n 1, 1) := by decide +kernel
theorem d_ByteRow_setBits_2 : decode b_ByteRow_setBits 2 = .ok (.iload_n 2, 1) := by decide +kernel
theorem d_ByteRow_setBits_3 : decode b_ByteRow_setBits 3 = .ok (.invokevirtual 39, 3) := by decide +kernel
theorem d_ByteRow_setBits_6 : decode b_ByteRow_setBits 6 = .ok (.ifCond .ne 4, 3) := by decide +kernel
theorem d_ByteRow_setBits_9 : decode b_ByteRow_setBits 9 = .ok (.return_, 1) := by decide +kernel
theorem d_ByteRow_setBits_10 : decode b_ByteRow_setBits 10 = .ok (.iload_n 1, 1) := by decide +kernel
theorem d_ByteRow_setBits_11 : decode b_ByteRow_setBits 11 = .ok (.bipush 64, 2) := by decide +kernel
theorem d_ByteRow_setBits_13 : decode b_ByteRow_setBits 13 = .ok (.idiv, 1) := by decide +kernel
theorem d_ByteRow_setBits_14 : decode b_ByteRow_setBits 14 = .ok (.istore 5, 2) := by decide +kernel
theorem d_ByteRow_setBits_16 : decode b_ByteRow_setBits 16 = .ok (.iload_n 1, 1) := by decide +kernel
theorem d_ByteRow_setBits_17 : decode b_ByteRow_setBits 17 = .ok (.bipush 64, 2) := by decide +kernel
theorem d_ByteRow_setBits_19 : decode b_ByteRow_setBits 19 = .ok (.irem, 1) := by decide +kernel
theorem d_ByteRow_setBits_20 : decode b_ByteRow_setBits 20 = .ok (.istore 6, 2) := by decide +kernel
theorem d_ByteRow_setBits_22 : decode b_ByteRow_setBits 22 = .ok (.iload_n 2, 1) := by decide +kernel
theorem d_ByteRow_setBits_23 : decode b_ByteRow_setBits 23 = .ok (.invokestatic 43, 3) := by decide +kernel
theorem d_ByteRow_setBits_26 : decode b_ByteRow_setBits 26 = .ok (.lstore 7, 2) := by decide +kernel
theorem d_ByteRow_setBits_28 : decode b_ByteRow_setBits 28 = .ok (.lload_n 3, 1) := by decide +kernel
theorem d_ByteRow_setBits_29 : decode b_ByteRow_setBits 29 = .ok (.lload 7, 2) := by decide +kernel
theorem d_ByteRow_setBits_31 : decode b_ByteRow_setBits 31 = .ok (.land, 1) := by decide +kernel
theorem d_ByteRow_setBits_32 : decode b_ByteRow_setBits 32 = .ok (.lstore 9, 2) := by decide +kernel
theorem d_ByteRow_setBits_34 : decode b_ByteRow_setBits 34 = .ok (.aload_n 0, 1) := by decide +kernel
theorem d_ByteRow_setBits_35 : decode b_ByteRow_setBits 35 = .ok (.getfield 9, 3) := by decide +kernel
theorem d_ByteRow_setBits_38 : decode b_ByteRow_setBits 38 = .ok (.iload 5, 2) := by decide +kernel
theorem d_ByteRow_setBits_40 : decode b_ByteRow_setBits 40 = .ok (.aload_n 0, 1) := by decide +kernel
theorem d_ByteRow_setBits_41 : decode b_ByteRow_setBits 41 = .ok (.getfield 9, 3) := by decide +kernel
theorem d_ByteRow_setBits_44 : decode b_ByteRow_setBits 44 = .ok (.iload 5, 2) := by decide +kernel
theorem d_ByteRow_setBits_46 : decode b_ByteRow_setBits 46 = .ok (.laload, 1) := by decide +kernel
theorem d_ByteRow_setBits_47 : decode b_ByteRow_setBits 47 = .ok (.lload 7, 2) := by decide +kernel
theorem d_ByteRow_setBits_49 : decode b_ByteRow_setBits 49 = .ok (.iload 6, 2) := by decide +kernel
theorem d_ByteRow_setBits_51 : decode b_ByteRow_setBits 51 = .ok (.lshl, 1) := by decide +kernel
theorem d_ByteRow_setBits_52 : decode b_ByteRow_setBits 52 = .ok (.ldc2_w 47, 3) := by decide +kernel
theorem d_ByteRow_setBits_55 : decode b_ByteRow_setBits 55 = .ok (.lxor, 1) := by decide +kernel
theorem d_ByteRow_setBits_56 : decode b_ByteRow_setBits 56 = .ok (.land, 1) := by decide +kernel
theorem d_ByteRow_setBits_57 : decode b_ByteRow_setBits 57 = .ok (.lload 9, 2) := by decide +kernel
theorem d_ByteRow_setBits_59 : decode b_ByteRow_setBits 59 = .ok (.iload 6, 2) := by decide +kernel
theorem d_ByteRow_setBits_61 : decode b_ByteRow_setBits 61 = .ok (.lshl, 1) := by decide +kernel
theorem d_ByteRow_setBits_62 : decode b_ByteRow_setBits 62 = .ok (.lor, 1) := by decide +kernel
theorem d_ByteRow_setBits_63 : decode b_ByteRow_setBits 63 = .ok (.lastore, 1) := by decide +kernel
theorem d_ByteRow_setBits_64 : decode b_ByteRow_setBits 64 = .ok (.iload 6, 2) := by decide +kernel
theorem d_ByteRow_setBits_66 : decode b_ByteRow_setBits 66 = .ok (.iload_n 2, 1) := by decide +kernel
theorem d_ByteRow_setBits_67 : decode b_ByteRow_setBits 67 = .ok (.iadd, 1) := by decide +kernel
theorem d_ByteRow_setBits_68 : decode b_ByteRow_setBits 68 = .ok (.bipush 64, 2) := by decide +kernel
theorem d_ByteRow_setBits_70 : decode b_ByteRow_setBits 70 = .ok (.if_icmp .le 44, 3) := by decide +kernel
theorem d_ByteRow_setBits_73 : decode b_ByteRow_setBits 73 = .ok (.bipush 64, 2) := by decide +kernel
theorem d_ByteRow_setBits_75 : decode b_ByteRow_setBits 75 = .ok (.iload 6, 2) := by decide +kernel
theorem d_ByteRow_setBits_77 : decode b_ByteRow_setBits 77 = .ok (.isub, 1) := by decide +kernel
theorem d_ByteRow_setBits_78 : decode b_ByteRow_setBits 78 = .ok (.istore 11, 2) := by decide +kernel
theorem d_ByteRow_setBits_80 : decode b_ByteRow_setBits 80 = .ok (.aload_n 0, 1) := by decide +kernel
theorem d_ByteRow_setBits_81 : decode b_ByteRow_setBits 81 = .ok (.getfield 9, 3) := by decide +kernel
theorem d_ByteRow_setBits_84 : decode b_ByteRow_setBits 84 = .ok (.iload 5, 2) := by decide +kernel
theorem d_ByteRow_setBits_86 : decode b_ByteRow_setBits 86 = .ok (.iconst 1, 1) := by decide +kernel
theorem d_ByteRow_setBits_87 : decode b_ByteRow_setBits 87 = .ok (.iadd, 1) := by decide +kernel
theorem d_ByteRow_setBits_88 : decode b_ByteRow_setBits 88 = .ok (.aload_n 0, 1) := by decide +kernel
theorem d_ByteRow_setBits_89 : decode b_ByteRow_setBits 89 = .ok (.getfield 9, 3) := by decide +kernel
theorem d_ByteRow_setBits_92 : decode b_ByteRow_setBits 92 = .ok (.iload 5, 2) := by decide +kernel
theorem d_ByteRow_setBits_94 : decode b_ByteRow_setBits 94 = .ok (.iconst 1, 1) := by decide +kernel
theorem d_ByteRow_setBits_95 : decode b_ByteRow_setBits 95 = .ok (.iadd, 1) := by decide +kernel
theorem d_ByteRow_setBits_96 : decode b_ByteRow_setBits 96 = .ok (.laload, 1) := by decide +kernel
theorem d_ByteRow_setBits_97 : decode b_ByteRow_setBits 97 = .ok (.lload 7, 2) := by decide +kernel
theorem d_ByteRow_setBits_99 : decode b_ByteRow_setBits 99 = .ok (.iload 11, 2) := by decide +kernel
theorem d_ByteRow_setBits_101 : decode b_ByteRow_setBits 101 = .ok (.lushr, 1) := by decide +kernel
theorem d_ByteRow_setBits_102 : decode b_ByteRow_setBits 102 = .ok (.ldc2_w 47, 3) := by decide +kernel
theorem d_ByteRow_setBits_105 : decode b_ByteRow_setBits 105 = .ok (.lxor, 1) := by decide +kernel
theorem d_ByteRow_setBits_106 : decode b_ByteRow_setBits 106 = .ok (.land, 1) := by decide +kernel
theorem d_ByteRow_setBits_107 : decode b_ByteRow_setBits 107 = .ok (.lload 9, 2) := by decide +kernel
theorem d_ByteRow_setBits_109 : decode b_ByteRow_setBits 109 = .ok (.iload 11, 2) := by decide +kernel
theorem d_ByteRow_setBits_111 : decode b_ByteRow_setBits 111 = .ok (.lushr, 1) := by decide +kernel
theorem d_ByteRow_setBits_112 : decode b_ByteRow_setBits 112 = .ok (.lor, 1) := by decide +kernel
theorem d_ByteRow_setBits_113 : decode b_ByteRow_setBits 113 = .ok (.lastore, 1) := by decide +kernel
theorem d_ByteRow_setBits_114 : decode b_ByteRow_setBits 114 = .ok (.return_, 1) := by decide +kernel
theorem d_ByteRow_hasRoom_0 : decode b_ByteRow_hasRoom 0 = .ok (.iload_n 1, 1) := by decide +kernel
theorem d_ByteRow_hasRoom_1 : decode b_ByteRow_hasRoom 1 = .ok (.ifCond .lt 25, 3) := by decide +kernel
theorem d_ByteRow_hasRoom_4 : decode b_ByteRow_hasRoom 4 = .ok (.iload_n 2, 1) := by decide +kernel
theorem d_ByteRow_hasRoom_5 : decode b_ByteRow_hasRoom 5 = .ok (.ifCond .le 21, 3) := by decide +kernel
theorem d_ByteRow_hasRoom_8 : decode b_ByteRow_hasRoom 8 = .ok (.iload_n 2, 1) := by decide +kernel
theorem d_ByteRow_hasRoom_9 : decode b_ByteRow_hasRoom 9 = .ok (.bipush 64, 2) := by decide +kernel
theorem d_ByteRow_hasRoom_11 : decode b_ByteRow_hasRoom 11 = .ok (.if_icmp .gt 15, 3) := by decide +kernel
theorem d_ByteRow_hasRoom_14 : decode b_ByteRow_hasRoom 14 = .ok (.iload_n 1, 1) := by decide +kernel
theorem d_ByteRow_hasRoom_15 : decode b_ByteRow_hasRoom 15 = .ok (.ldc 49, 2) := by decide +kernel
theorem d_ByteRow_hasRoom_17 : decode b_ByteRow_hasRoom 17 = .ok (.iload_n 2, 1) := by decide +kernel
theorem d_ByteRow_hasRoom_18 : decode b_ByteRow_hasRoom 18 = .ok (.isub, 1) := by decide +kernel
theorem d_ByteRow_hasRoom_19 : decode b_ByteRow_hasRoom 19 = .ok (.if_icmp .gt 7, 3) := by decide +kernel
theorem d_ByteRow_hasRoom_22 : decode b_ByteRow_hasRoom 22 = .ok (.iconst 1, 1) := by decide +kernel
theorem d_ByteRow_hasRoom_23 : decode b_ByteRow_hasRoom 23 = .ok (.goto 4, 3) := by decide +kernel
theorem d_ByteRow_hasRoom_26 : decode b_ByteRow_hasRoom 26 = .ok (.iconst 0, 1) := by decide +kernel
theorem d_ByteRow_hasRoom_27 : decode b_ByteRow_hasRoom 27 = .ok (.ireturn, 1) := by decide +kernel
theorem d_ByteRow_maskOf_0 : decode b_ByteRow_maskOf 0 = .ok (.ldc2_w 47, 3) := by decide +kernel
theorem d_ByteRow_maskOf_3 : decode b_ByteRow_maskOf 3 = .ok (.bipush 64, 2) := by decide +kernel
theorem d_ByteRow_maskOf_5 : decode b_ByteRow_maskOf 5 = .ok (.iload_n 0, 1) := by decide +kernel
theorem d_ByteRow_maskOf_6 : decode b_ByteRow_maskOf 6 = .ok (.isub, 1) := by decide +kernel
theorem d_ByteRow_maskOf_7 : decode b_ByteRow_maskOf 7 = .ok (.lushr, 1) := by decide +kernel
theorem d_ByteRow_maskOf_8 : decode b_ByteRow_maskOf 8 = .ok (.lreturn, 1) := by decide +kernel
end
section
theorem d_Layout_init_0 : decode b_Layout_init 0 = .ok (.aload_n 0, 1) := by decide +kernel
theorem d_Layout_init_1 : decode b_Layout_init 1 = .ok (.invokespecial 3, 3) := by decide +kernel
theorem d_Layout_init_4 : decode b_Layout_init 4 = .ok (.aload_n 0, 1) := by decide +kernel
theorem d_Layout_init_5 : decode b_Layout_init 5 = .ok (.iconst 0, 1) := by decide +kernel
theorem d_Layout_init_6 : decode b_Layout_init 6 = .ok (.putfield 9, 3) := by decide +kernel
theorem d_Layout_init_9 : decode b_Layout_init 9 = .ok (.aload_n 0, 1) := by decide +kernel
theorem d_Layout_init_10 : decode b_Layout_init 10 = .ok (.bipush 32, 2) := by decide +kernel
theorem d_Layout_init_12 : decode b_Layout_init 12 = .ok (.newarray .long, 2) := by decide +kernel
theorem d_Layout_init_14 : decode b_Layout_init 14 = .ok (.putfield 15, 3) := by decide +kernel
theorem d_Layout_init_17 : decode b_Layout_init 17 = .ok (.aload_n 0, 1) := by decide +kernel
theorem d_Layout_init_18 : decode b_Layout_init 18 = .ok (.sipush 128, 3) := by decide +kernel
theorem d_Layout_init_21 : decode b_Layout_init 21 = .ok (.newarray .int, 2) := by decide +kernel
theorem d_Layout_init_23 : decode b_Layout_init 23 = .ok (.putfield 19, 3) := by decide +kernel
theorem d_Layout_init_26 : decode b_Layout_init 26 = .ok (.aload_n 0, 1) := by decide +kernel
theorem d_Layout_init_27 : decode b_Layout_init 27 = .ok (.sipush 128, 3) := by decide +kernel
theorem d_Layout_init_30 : decode b_Layout_init 30 = .ok (.newarray .int, 2) := by decide +kernel
theorem d_Layout_init_32 : decode b_Layout_init 32 = .ok (.putfield 23, 3) := by decide +kernel
theorem d_Layout_init_35 : decode b_Layout_init 35 = .ok (.return_, 1) := by decide +kernel
theorem d_Layout_hasBlock_0 : decode b_Layout_hasBlock 0 = .ok (.iload_n 1, 1) := by decide +kernel
theorem d_Layout_hasBlock_1 : decode b_Layout_hasBlock 1 = .ok (.ifCond .lt 15, 3) := by decide +kernel
theorem d_Layout_hasBlock_4 : decode b_Layout_hasBlock 4 = .ok (.iload_n 1, 1) := by decide +kernel
theorem d_Layout_hasBlock_5 : decode b_Layout_hasBlock 5 = .ok (.aload_n 0, 1) := by decide +kernel
theorem d_Layout_hasBlock_6 : decode b_Layout_hasBlock 6 = .ok (.getfield 9, 3) := by decide +kernel
theorem d_Layout_hasBlock_9 : decode b_Layout_hasBlock 9 = .ok (.if_icmp .ge 7, 3) := by decide +kernel
theorem d_Layout_hasBlock_12 : decode b_Layout_hasBlock 12 = .ok (.iconst 1, 1) := by decide +kernel
theorem d_Layout_hasBlock_13 : decode b_Layout_hasBlock 13 = .ok (.goto 4, 3) := by decide +kernel
theorem d_Layout_hasBlock_16 : decode b_Layout_hasBlock 16 = .ok (.iconst 0, 1) := by decide +kernel
theorem d_Layout_hasBlock_17 : decode b_Layout_hasBlock 17 = .ok (.ireturn, 1) := by decide +kernel
theorem d_Layout_hasPart_0 : decode b_Layout_hasPart 0 = .ok (.aload_n 0, 1) := by decide +kernel
theorem d_Layout_hasPart_1 : decode b_Layout_hasPart 1 = .ok (.iload_n 1, 1) := by decide +kernel
theorem d_Layout_hasPart_2 : decode b_Layout_hasPart 2 = .ok (.invokevirtual 26, 3) := by decide +kernel
theorem d_Layout_hasPart_5 : decode b_Layout_hasPart 5 = .ok (.ifCond .eq 16, 3) := by decide +kernel
theorem d_Layout_hasPart_8 : decode b_Layout_hasPart 8 = .ok (.iload_n 2, 1) := by decide +kernel
theorem d_Layout_hasPart_9 : decode b_Layout_hasPart 9 = .ok (.ifCond .lt 12, 3) := by decide +kernel
theorem d_Layout_hasPart_12 : decode b_Layout_hasPart 12 = .ok (.iload_n 2, 1) := by decide +kernel
theorem d_Layout_hasPart_13 : decode b_Layout_hasPart 13 = .ok (.iconst 4, 1) := by decide +kernel
theorem d_Layout_hasPart_14 : decode b_Layout_hasPart 14 = .ok (.if_icmp .ge 7, 3) := by decide +kernel
theorem d_Layout_hasPart_17 : decode b_Layout_hasPart 17 = .ok (.iconst 1, 1) := by decide +kernel
theorem d_Layout_hasPart_18 : decode b_Layout_hasPart 18 = .ok (.goto 4, 3) := by decide +kernel
theorem d_Layout_hasPart_21 : decode b_Layout_hasPart 21 = .ok (.iconst 0, 1) := by decide +kernel
theorem d_Layout_hasPart_22 : decode b_Layout_hasPart 22 = .ok (.ireturn, 1) := by decide +kernel
end
section
theorem d_Scan_init_0 : decode b_Scan_init 0 = .ok (.aload_n 0, 1) := by decide +kernel
theorem d_Scan_init_1 : decode b_Scan_init 1 = .ok (.invokespecial 3, 3) := by decide +kernel
theorem d_Scan_init_4 : decode b_Scan_init 4 = .ok (.aload_n 0, 1) := by decide +kernel
theorem d_Scan_init_5 : decode b_Scan_init 5 = .ok (.aload_n 1, 1) := by decide +kernel
theorem d_Scan_init_6 : decode b_Scan_init 6 = .ok (.putfield 9, 3) := by decide +kernel
theorem d_Scan_init_9 : decode b_Scan_init 9 = .ok (.aload_n 0, 1) := by decide +kernel
theorem d_Scan_init_10 : decode b_Scan_init 10 = .ok (.iconst 0, 1) := by decide +kernel
theorem d_Scan_init_11 : decode b_Scan_init 11 = .ok (.putfield 15, 3) := by decide +kernel
theorem d_Scan_init_14 : decode b_Scan_init 14 = .ok (.aload_n 0, 1) := by decide +kernel
theorem d_Scan_init_15 : decode b_Scan_init 15 = .ok (.iconst 0, 1) := by decide +kernel
theorem d_Scan_init_16 : decode b_Scan_init 16 = .ok (.putfield 19, 3) := by decide +kernel
theorem d_Scan_init_19 : decode b_Scan_init 19 = .ok (.aload_n 0, 1) := by decide +kernel
theorem d_Scan_init_20 : decode b_Scan_init 20 = .ok (.iconst (-1), 1) := by decide +kernel
theorem d_Scan_init_21 : decode b_Scan_init 21 = .ok (.putfield 22, 3) := by decide +kernel
theorem d_Scan_init_24 : decode b_Scan_init 24 = .ok (.aload_n 0, 1) := by decide +kernel
theorem d_Scan_init_25 : decode b_Scan_init 25 = .ok (.iconst 0, 1) := by decide +kernel
theorem d_Scan_init_26 : decode b_Scan_init 26 = .ok (.putfield 25, 3) := by decide +kernel
theorem d_Scan_init_29 : decode b_Scan_init 29 = .ok (.aload_n 0, 1) := by decide +kernel
theorem d_Scan_init_30 : decode b_Scan_init 30 = .ok (.lconst 0, 1) := by decide +kernel
theorem d_Scan_init_31 : decode b_Scan_init 31 = .ok (.putfield 28, 3) := by decide +kernel
theorem d_Scan_init_34 : decode b_Scan_init 34 = .ok (.return_, 1) := by decide +kernel
theorem d_Scan_lookThrough_0 : decode b_Scan_lookThrough 0 = .ok (.aload_n 0, 1) := by decide +kernel
theorem d_Scan_lookThrough_1 : decode b_Scan_lookThrough 1 = .ok (.iconst 0, 1) := by decide +kernel
theorem d_Scan_lookThrough_2 : decode b_Scan_lookThrough 2 = .ok (.putfield 15, 3) := by decide +kernel
theorem d_Scan_lookThrough_5 : decode b_Scan_lookThrough 5 = .ok (.aload_n 0, 1) := by decide +kernel
theorem d_Scan_lookThrough_6 : decode b_Scan_lookThrough 6 = .ok (.iconst 0, 1) := by decide +kernel
theorem d_Scan_lookThrough_7 : decode b_Scan_lookThrough 7 = .ok (.putfield 19, 3) := by decide +kernel
theorem d_Scan_lookThrough_10 : decode b_Scan_lookThrough 10 = .ok (.aload_n 0, 1) := by decide +kernel
theorem d_Scan_lookThrough_11 : decode b_Scan_lookThrough 11 = .ok (.iconst (-1), 1) := by decide +kernel
theorem d_Scan_lookThrough_12 : decode b_Scan_lookThrough 12 = .ok (.putfield 22, 3) := by decide +kernel
theorem d_Scan_lookThrough_15 : decode b_Scan_lookThrough 15 = .ok (.aload_n 0, 1) := by decide +kernel
theorem d_Scan_lookThrough_16 : decode b_Scan_lookThrough 16 = .ok (.invokevirtual 32, 3) := by decide +kernel
theorem d_Scan_lookThrough_19 : decode b_Scan_lookThrough 19 = .ok (.aload_n 1, 1) := by decide +kernel
theorem d_Scan_lookThrough_20 : decode b_Scan_lookThrough 20 = .ok (.aload_n 0, 1) := by decide +kernel
theorem d_Scan_lookThrough_21 : decode b_Scan_lookThrough 21 = .ok (.getfield 25, 3) := by decide +kernel
theorem d_Scan_lookThrough_24 : decode b_Scan_lookThrough 24 = .ok (.invokestatic 35, 3) := by decide +kernel
theorem d_Scan_lookThrough_27 : decode b_Scan_lookThrough 27 = .ok (.putfield 39, 3) := by decide +kernel
theorem d_Scan_lookThrough_30 : decode b_Scan_lookThrough 30 = .ok (.iconst 0, 1) := by decide +kernel
theorem d_Scan_lookThrough_31 : decode b_Scan_lookThrough 31 = .ok (.istore_n 2, 1) := by decide +kernel
theorem d_Scan_lookThrough_32 : decode b_Scan_lookThrough 32 = .ok (.iload_n 2, 1) := by decide +kernel
theorem d_Scan_lookThrough_33 : decode b_Scan_lookThrough 33 = .ok (.aload_n 1, 1) := by decide +kernel
theorem d_Scan_lookThrough_34 : decode b_Scan_lookThrough 34 = .ok (.getfield 39, 3) := by decide +kernel
theorem d_Scan_lookThrough_37 : decode b_Scan_lookThrough 37 = .ok (.if_icmp .ge 22, 3) := by decide +kernel
theorem d_Scan_lookThrough_40 : decode b_Scan_lookThrough 40 = .ok (.aload_n 0, 1) := by decide +kernel
theorem d_Scan_lookThrough_41 : decode b_Scan_lookThrough 41 = .ok (.invokevirtual 44, 3) := by decide +kernel
theorem d_Scan_lookThrough_44 : decode b_Scan_lookThrough 44 = .ok (.ifCond .eq 15, 3) := by decide +kernel
theorem d_Scan_lookThrough_47 : decode b_Scan_lookThrough 47 = .ok (.aload_n 0, 1) := by decide +kernel
theorem d_Scan_lookThrough_48 : decode b_Scan_lookThrough 48 = .ok (.aload_n 1, 1) := by decide +kernel
theorem d_Scan_lookThrough_49 : decode b_Scan_lookThrough 49 = .ok (.iload_n 2, 1) := by decide +kernel
theorem d_Scan_lookThrough_50 : decode b_Scan_lookThrough 50 = .ok (.invokevirtual 48, 3) := by decide +kernel
theorem d_Scan_lookThrough_53 : decode b_Scan_lookThrough 53 = .ok (.iinc 2 1, 3) := by decide +kernel
theorem d_Scan_lookThrough_56 : decode b_Scan_lookThrough 56 = .ok (.goto (-24), 3) := by decide +kernel
theorem d_Scan_lookThrough_59 : decode b_Scan_lookThrough 59 = .ok (.aload_n 0, 1) := by decide +kernel
theorem d_Scan_lookThrough_60 : decode b_Scan_lookThrough 60 = .ok (.invokevirtual 44, 3) := by decide +kernel
theorem d_Scan_lookThrough_63 : decode b_Scan_lookThrough 63 = .ok (.ifCond .eq 27, 3) := by decide +kernel
theorem d_Scan_lookThrough_66 : decode b_Scan_lookThrough 66 = .ok (.aload_n 0, 1) := by decide +kernel
theorem d_Scan_lookThrough_67 : decode b_Scan_lookThrough 67 = .ok (.getfield 15, 3) := by decide +kernel
theorem d_Scan_lookThrough_70 : decode b_Scan_lookThrough 70 = .ok (.aload_n 0, 1) := by decide +kernel
theorem d_Scan_lookThrough_71 : decode b_Scan_lookThrough 71 = .ok (.getfield 9, 3) := by decide +kernel
theorem d_Scan_lookThrough_74 : decode b_Scan_lookThrough 74 = .ok (.getfield 52, 3) := by decide +kernel
theorem d_Scan_lookThrough_77 : decode b_Scan_lookThrough 77 = .ok (.if_icmp .ge 13, 3) := by decide +kernel
theorem d_Scan_lookThrough_80 : decode b_Scan_lookThrough 80 = .ok (.aload_n 0, 1) := by decide +kernel
theorem d_Scan_lookThrough_81 : decode b_Scan_lookThrough 81 = .ok (.bipush 6, 2) := by decide +kernel
theorem d_Scan_lookThrough_83 : decode b_Scan_lookThrough 83 = .ok (.aload_n 0, 1) := by decide +kernel
theorem d_Scan_lookThrough_84 : decode b_Scan_lookThrough 84 = .ok (.getfield 15, 3) := by decide +kernel
theorem d_Scan_lookThrough_87 : decode b_Scan_lookThrough 87 = .ok (.invokevirtual 57, 3) := by decide +kernel
theorem d_Scan_lookThrough_90 : decode b_Scan_lookThrough 90 = .ok (.return_, 1) := by decide +kernel
theorem d_Scan_lookAtHead_0 : decode b_Scan_lookAtHead 0 = .ok (.aload_n 0, 1) := by decide +kernel
theorem d_Scan_lookAtHead_1 : decode b_Scan_lookAtHead 1 = .ok (.iconst 0, 1) := by decide +kernel
theorem d_Scan_lookAtHead_2 : decode b_Scan_lookAtHead 2 = .ok (.putfield 25, 3) := by decide +kernel
theorem d_Scan_lookAtHead_5 : decode b_Scan_lookAtHead 5 = .ok (.aload_n 0, 1) := by decide +kernel
theorem d_Scan_lookAtHead_6 : decode b_Scan_lookAtHead 6 = .ok (.lconst 0, 1) := by decide +kernel
theorem d_Scan_lookAtHead_7 : decode b_Scan_lookAtHead 7 = .ok (.putfield 28, 3) := by decide +kernel
theorem d_Scan_lookAtHead_10 : decode b_Scan_lookAtHead 10 = .ok (.aload_n 0, 1) := by decide +kernel
theorem d_Scan_lookAtHead_11 : decode b_Scan_lookAtHead 11 = .ok (.invokevirtual 61, 3) := by decide +kernel
theorem d_Scan_lookAtHead_14 : decode b_Scan_lookAtHead 14 = .ok (.lstore_n 1, 1) := by decide +kernel
theorem d_Scan_lookAtHead_15 : decode b_Scan_lookAtHead 15 = .ok (.aload_n 0, 1) := by decide +kernel
theorem d_Scan_lookAtHead_16 : decode b_Scan_lookAtHead 16 = .ok (.invokevirtual 44, 3) := by decide +kernel
theorem d_Scan_lookAtHead_19 : decode b_Scan_lookAtHead 19 = .ok (.ifCond .ne 4, 3) := by decide +kernel
theorem d_Scan_lookAtHead_22 : decode b_Scan_lookAtHead 22 = .ok (.return_, 1) := by decide +kernel
theorem d_Scan_lookAtHead_23 : decode b_Scan_lookAtHead 23 = .ok (.lload_n 1, 1) := by decide +kernel
theorem d_Scan_lookAtHead_24 : decode b_Scan_lookAtHead 24 = .ok (.lconst 0, 1) := by decide +kernel
theorem d_Scan_lookAtHead_25 : decode b_Scan_lookAtHead 25 = .ok (.lcmp, 1) := by decide +kernel
theorem d_Scan_lookAtHead_26 : decode b_Scan_lookAtHead 26 = .ok (.ifCond .lt 11, 3) := by decide +kernel
theorem d_Scan_lookAtHead_29 : decode b_Scan_lookAtHead 29 = .ok (.lload_n 1, 1) := by decide +kernel
theorem d_Scan_lookAtHead_30 : decode b_Scan_lookAtHead 30 = .ok (.ldc2_w 65, 3) := by decide +kernel
theorem d_Scan_lookAtHead_33 : decode b_Scan_lookAtHead 33 = .ok (.lcmp, 1) := by decide +kernel
theorem d_Scan_lookAtHead_34 : decode b_Scan_lookAtHead 34 = .ok (.ifCond .le 10, 3) := by decide +kernel
theorem d_Scan_lookAtHead_37 : decode b_Scan_lookAtHead 37 = .ok (.aload_n 0, 1) := by decide +kernel
theorem d_Scan_lookAtHead_38 : decode b_Scan_lookAtHead 38 = .ok (.iconst 4, 1) := by decide +kernel
theorem d_Scan_lookAtHead_39 : decode b_Scan_lookAtHead 39 = .ok (.iconst 0, 1) := by decide +kernel
theorem d_Scan_lookAtHead_40 : decode b_Scan_lookAtHead 40 = .ok (.invokevirtual 57, 3) := by decide +kernel
theorem d_Scan_lookAtHead_43 : decode b_Scan_lookAtHead 43 = .ok (.return_, 1) := by decide +kernel
theorem d_Scan_lookAtHead_44 : decode b_Scan_lookAtHead 44 = .ok (.aload_n 0, 1) := by decide +kernel
theorem d_Scan_lookAtHead_45 : decode b_Scan_lookAtHead 45 = .ok (.lload_n 1, 1) := by decide +kernel
theorem d_Scan_lookAtHead_46 : decode b_Scan_lookAtHead 46 = .ok (.l2i, 1) := by decide +kernel
theorem d_Scan_lookAtHead_47 : decode b_Scan_lookAtHead 47 = .ok (.putfield 25, 3) := by decide +kernel
theorem d_Scan_lookAtHead_50 : decode b_Scan_lookAtHead 50 = .ok (.aload_n 0, 1) := by decide +kernel
theorem d_Scan_lookAtHead_51 : decode b_Scan_lookAtHead 51 = .ok (.getfield 25, 3) := by decide +kernel
theorem d_Scan_lookAtHead_54 : decode b_Scan_lookAtHead 54 = .ok (.ifCond .le 14, 3) := by decide +kernel
theorem d_Scan_lookAtHead_57 : decode b_Scan_lookAtHead 57 = .ok (.aload_n 0, 1) := by decide +kernel
theorem d_Scan_lookAtHead_58 : decode b_Scan_lookAtHead 58 = .ok (.aload_n 0, 1) := by decide +kernel
theorem d_Scan_lookAtHead_59 : decode b_Scan_lookAtHead 59 = .ok (.invokevirtual 61, 3) := by decide +kernel
theorem d_Scan_lookAtHead_62 : decode b_Scan_lookAtHead 62 = .ok (.invokestatic 67, 3) := by decide +kernel
theorem d_Scan_lookAtHead_65 : decode b_Scan_lookAtHead 65 = .ok (.putfield 28, 3) := by decide +kernel
theorem d_Scan_lookAtHead_68 : decode b_Scan_lookAtHead 68 = .ok (.return_, 1) := by decide +kernel
theorem d_Scan_lookAtBlock_0 : decode b_Scan_lookAtBlock 0 = .ok (.aload_n 1, 1) := by decide +kernel
theorem d_Scan_lookAtBlock_1 : decode b_Scan_lookAtBlock 1 = .ok (.getfield 71, 3) := by decide +kernel
theorem d_Scan_lookAtBlock_4 : decode b_Scan_lookAtBlock 4 = .ok (.iload_n 2, 1) := by decide +kernel
theorem d_Scan_lookAtBlock_5 : decode b_Scan_lookAtBlock 5 = .ok (.aload_n 0, 1) := by decide +kernel
theorem d_Scan_lookAtBlock_6 : decode b_Scan_lookAtBlock 6 = .ok (.invokevirtual 61, 3) := by decide +kernel
theorem d_Scan_lookAtBlock_9 : decode b_Scan_lookAtBlock 9 = .ok (.invokestatic 67, 3) := by decide +kernel
theorem d_Scan_lookAtBlock_12 : decode b_Scan_lookAtBlock 12 = .ok (.lastore, 1) := by decide +kernel
theorem d_Scan_lookAtBlock_13 : decode b_Scan_lookAtBlock 13 = .ok (.iconst 0, 1) := by decide +kernel
theorem d_Scan_lookAtBlock_14 : decode b_Scan_lookAtBlock 14 = .ok (.istore_n 3, 1) := by decide +kernel
theorem d_Scan_lookAtBlock_15 : decode b_Scan_lookAtBlock 15 = .ok (.iload_n 3, 1) := by decide +kernel
theorem d_Scan_lookAtBlock_16 : decode b_Scan_lookAtBlock 16 = .ok (.iconst 4, 1) := by decide +kernel
theorem d_Scan_lookAtBlock_17 : decode b_Scan_lookAtBlock 17 = .ok (.if_icmp .ge 36, 3) := by decide +kernel
theorem d_Scan_lookAtBlock_20 : decode b_Scan_lookAtBlock 20 = .ok (.aload_n 0, 1) := by decide +kernel
theorem d_Scan_lookAtBlock_21 : decode b_Scan_lookAtBlock 21 = .ok (.invokevirtual 44, 3) := by decide +kernel
theorem d_Scan_lookAtBlock_24 : decode b_Scan_lookAtBlock 24 = .ok (.ifCond .eq 29, 3) := by decide +kernel
theorem d_Scan_lookAtBlock_27 : decode b_Scan_lookAtBlock 27 = .ok (.aload_n 1, 1) := by decide +kernel
theorem d_Scan_lookAtBlock_28 : decode b_Scan_lookAtBlock 28 = .ok (.getfield 75, 3) := by decide +kernel
theorem d_Scan_lookAtBlock_31 : decode b_Scan_lookAtBlock 31 = .ok (.iload_n 2, 1) := by decide +kernel
theorem d_Scan_lookAtBlock_32 : decode b_Scan_lookAtBlock 32 = .ok (.iconst 4, 1) := by decide +kernel
theorem d_Scan_lookAtBlock_33 : decode b_Scan_lookAtBlock 33 = .ok (.imul, 1) := by decide +kernel
theorem d_Scan_lookAtBlock_34 : decode b_Scan_lookAtBlock 34 = .ok (.iload_n 3, 1) := by decide +kernel
theorem d_Scan_lookAtBlock_35 : decode b_Scan_lookAtBlock 35 = .ok (.iadd, 1) := by decide +kernel
theorem d_Scan_lookAtBlock_36 : decode b_Scan_lookAtBlock 36 = .ok (.aload_n 0, 1) := by decide +kernel
theorem d_Scan_lookAtBlock_37 : decode b_Scan_lookAtBlock 37 = .ok (.aload_n 0, 1) := by decide +kernel
theorem d_Scan_lookAtBlock_38 : decode b_Scan_lookAtBlock 38 = .ok (.iload_n 2, 1) := by decide +kernel
theorem d_Scan_lookAtBlock_39 : decode b_Scan_lookAtBlock 39 = .ok (.iload_n 3, 1) := by decide +kernel
theorem d_Scan_lookAtBlock_40 : decode b_Scan_lookAtBlock 40 = .ok (.invokevirtual 79, 3) := by decide +kernel
theorem d_Scan_lookAtBlock_43 : decode b_Scan_lookAtBlock 43 = .ok (.invokevirtual 83, 3) := by decide +kernel
theorem d_Scan_lookAtBlock_46 : decode b_Scan_lookAtBlock 46 = .ok (.iastore, 1) := by decide +kernel
theorem d_Scan_lookAtBlock_47 : decode b_Scan_lookAtBlock 47 = .ok (.iinc 3 1, 3) := by decide +kernel
theorem d_Scan_lookAtBlock_50 : decode b_Scan_lookAtBlock 50 = .ok (.goto (-35), 3) := by decide +kernel
theorem d_Scan_lookAtBlock_53 : decode b_Scan_lookAtBlock 53 = .ok (.iconst 0, 1) := by decide +kernel
theorem d_Scan_lookAtBlock_54 : decode b_Scan_lookAtBlock 54 = .ok (.istore_n 3, 1) := by decide +kernel
theorem d_Scan_lookAtBlock_55 : decode b_Scan_lookAtBlock 55 = .ok (.iload_n 3, 1) := by decide +kernel
theorem d_Scan_lookAtBlock_56 : decode b_Scan_lookAtBlock 56 = .ok (.iconst 4, 1) := by decide +kernel
theorem d_Scan_lookAtBlock_57 : decode b_Scan_lookAtBlock 57 = .ok (.if_icmp .ge 50, 3) := by decide +kernel
theorem d_Scan_lookAtBlock_60 : decode b_Scan_lookAtBlock 60 = .ok (.aload_n 0, 1) := by decide +kernel
theorem d_Scan_lookAtBlock_61 : decode b_Scan_lookAtBlock 61 = .ok (.invokevirtual 44, 3) := by decide +kernel
theorem d_Scan_lookAtBlock_64 : decode b_Scan_lookAtBlock 64 = .ok (.ifCond .eq 43, 3) := by decide +kernel
theorem d_Scan_lookAtBlock_67 : decode b_Scan_lookAtBlock 67 = .ok (.aload_n 1, 1) := by decide +kernel
theorem d_Scan_lookAtBlock_68 : decode b_Scan_lookAtBlock 68 = .ok (.getfield 86, 3) := by decide +kernel
theorem d_Scan_lookAtBlock_71 : decode b_Scan_lookAtBlock 71 = .ok (.iload_n 2, 1) := by decide +kernel
theorem d_Scan_lookAtBlock_72 : decode b_Scan_lookAtBlock 72 = .ok (.iconst 4, 1) := by decide +kernel
theorem d_Scan_lookAtBlock_73 : decode b_Scan_lookAtBlock 73 = .ok (.imul, 1) := by decide +kernel
theorem d_Scan_lookAtBlock_74 : decode b_Scan_lookAtBlock 74 = .ok (.iload_n 3, 1) := by decide +kernel
theorem d_Scan_lookAtBlock_75 : decode b_Scan_lookAtBlock 75 = .ok (.iadd, 1) := by decide +kernel
theorem d_Scan_lookAtBlock_76 : decode b_Scan_lookAtBlock 76 = .ok (.aload_n 0, 1) := by decide +kernel
theorem d_Scan_lookAtBlock_77 : decode b_Scan_lookAtBlock 77 = .ok (.getfield 15, 3) := by decide +kernel
theorem d_Scan_lookAtBlock_80 : decode b_Scan_lookAtBlock 80 = .ok (.iastore, 1) := by decide +kernel
theorem d_Scan_lookAtBlock_81 : decode b_Scan_lookAtBlock 81 = .ok (.aload_n 0, 1) := by decide +kernel
theorem d_Scan_lookAtBlock_82 : decode b_Scan_lookAtBlock 82 = .ok (.aload_n 1, 1) := by decide +kernel
theorem d_Scan_lookAtBlock_83 : decode b_Scan_lookAtBlock 83 = .ok (.getfield 75, 3) := by decide +kernel
theorem d_Scan_lookAtBlock_86 : decode b_Scan_lookAtBlock 86 = .ok (.iload_n 2, 1) := by decide +kernel
theorem d_Scan_lookAtBlock_87 : decode b_Scan_lookAtBlock 87 = .ok (.iconst 4, 1) := by decide +kernel
theorem d_Scan_lookAtBlock_88 : decode b_Scan_lookAtBlock 88 = .ok (.imul, 1) := by decide +kernel
theorem d_Scan_lookAtBlock_89 : decode b_Scan_lookAtBlock 89 = .ok (.iload_n 3, 1) := by decide +kernel
theorem d_Scan_lookAtBlock_90 : decode b_Scan_lookAtBlock 90 = .ok (.iadd, 1) := by decide +kernel
theorem d_Scan_lookAtBlock_91 : decode b_Scan_lookAtBlock 91 = .ok (.iaload, 1) := by decide +kernel
theorem d_Scan_lookAtBlock_92 : decode b_Scan_lookAtBlock 92 = .ok (.aload_n 0, 1) := by decide +kernel
theorem d_Scan_lookAtBlock_93 : decode b_Scan_lookAtBlock 93 = .ok (.iload_n 2, 1) := by decide +kernel
theorem d_Scan_lookAtBlock_94 : decode b_Scan_lookAtBlock 94 = .ok (.iload_n 3, 1) := by decide +kernel
theorem d_Scan_lookAtBlock_95 : decode b_Scan_lookAtBlock 95 = .ok (.invokevirtual 79, 3) := by decide +kernel
theorem d_Scan_lookAtBlock_98 : decode b_Scan_lookAtBlock 98 = .ok (.invokevirtual 89, 3) := by decide +kernel
theorem d_Scan_lookAtBlock_101 : decode b_Scan_lookAtBlock 101 = .ok (.iinc 3 1, 3) := by decide +kernel
theorem d_Scan_lookAtBlock_104 : decode b_Scan_lookAtBlock 104 = .ok (.goto (-49), 3) := by decide +kernel
theorem d_Scan_lookAtBlock_107 : decode b_Scan_lookAtBlock 107 = .ok (.return_, 1) := by decide +kernel
theorem d_Scan_longsOf_0 : decode b_Scan_longsOf 0 = .ok (.iload_n 1, 1) := by decide +kernel
theorem d_Scan_longsOf_1 : decode b_Scan_longsOf 1 = .ok (.iload_n 2, 1) := by decide +kernel
theorem d_Scan_longsOf_2 : decode b_Scan_longsOf 2 = .ok (.iconst 1, 1) := by decide +kernel
theorem d_Scan_longsOf_3 : decode b_Scan_longsOf 3 = .ok (.iadd, 1) := by decide +kernel
theorem d_Scan_longsOf_4 : decode b_Scan_longsOf 4 = .ok (.aload_n 0, 1) := by decide +kernel
theorem d_Scan_longsOf_5 : decode b_Scan_longsOf 5 = .ok (.getfield 25, 3) := by decide +kernel
theorem d_Scan_longsOf_8 : decode b_Scan_longsOf 8 = .ok (.invokestatic 92, 3) := by decide +kernel
theorem d_Scan_longsOf_11 : decode b_Scan_longsOf 11 = .ok (.iload_n 1, 1) := by decide +kernel
theorem d_Scan_longsOf_12 : decode b_Scan_longsOf 12 = .ok (.iload_n 2, 1) := by decide +kernel
theorem d_Scan_longsOf_13 : decode b_Scan_longsOf 13 = .ok (.aload_n 0, 1) := by decide +kernel
theorem d_Scan_longsOf_14 : decode b_Scan_longsOf 14 = .ok (.getfield 25, 3) := by decide +kernel
theorem d_Scan_longsOf_17 : decode b_Scan_longsOf 17 = .ok (.invokestatic 92, 3) := by decide +kernel
theorem d_Scan_longsOf_20 : decode b_Scan_longsOf 20 = .ok (.isub, 1) := by decide +kernel
theorem d_Scan_longsOf_21 : decode b_Scan_longsOf 21 = .ok (.ireturn, 1) := by decide +kernel
theorem d_Scan_nextWidth_0 : decode b_Scan_nextWidth 0 = .ok (.aload_n 0, 1) := by decide +kernel
theorem d_Scan_nextWidth_1 : decode b_Scan_nextWidth 1 = .ok (.getfield 15, 3) := by decide +kernel
theorem d_Scan_nextWidth_4 : decode b_Scan_nextWidth 4 = .ok (.istore_n 2, 1) := by decide +kernel
theorem d_Scan_nextWidth_5 : decode b_Scan_nextWidth 5 = .ok (.aload_n 0, 1) := by decide +kernel
theorem d_Scan_nextWidth_6 : decode b_Scan_nextWidth 6 = .ok (.invokevirtual 96, 3) := by decide +kernel
theorem d_Scan_nextWidth_9 : decode b_Scan_nextWidth 9 = .ok (.istore_n 3, 1) := by decide +kernel
theorem d_Scan_nextWidth_10 : decode b_Scan_nextWidth 10 = .ok (.iload_n 3, 1) := by decide +kernel
theorem d_Scan_nextWidth_11 : decode b_Scan_nextWidth 11 = .ok (.bipush 64, 2) := by decide +kernel
theorem d_Scan_nextWidth_13 : decode b_Scan_nextWidth 13 = .ok (.if_icmp .gt 11, 3) := by decide +kernel
theorem d_Scan_nextWidth_16 : decode b_Scan_nextWidth 16 = .ok (.iload_n 3, 1) := by decide +kernel
theorem d_Scan_nextWidth_17 : decode b_Scan_nextWidth 17 = .ok (.ifCond .eq 13, 3) := by decide +kernel
theorem d_Scan_nextWidth_20 : decode b_Scan_nextWidth 20 = .ok (.iload_n 1, 1) := by decide +kernel
theorem d_Scan_nextWidth_21 : decode b_Scan_nextWidth 21 = .ok (.ifCond .ne 9, 3) := by decide +kernel
theorem d_Scan_nextWidth_24 : decode b_Scan_nextWidth 24 = .ok (.aload_n 0, 1) := by decide +kernel
theorem d_Scan_nextWidth_25 : decode b_Scan_nextWidth 25 = .ok (.iconst 5, 1) := by decide +kernel
theorem d_Scan_nextWidth_26 : decode b_Scan_nextWidth 26 = .ok (.iload_n 2, 1) := by decide +kernel
theorem d_Scan_nextWidth_27 : decode b_Scan_nextWidth 27 = .ok (.invokevirtual 57, 3) := by decide +kernel
theorem d_Scan_nextWidth_30 : decode b_Scan_nextWidth 30 = .ok (.iload_n 3, 1) := by decide +kernel
theorem d_Scan_nextWidth_31 : decode b_Scan_nextWidth 31 = .ok (.ireturn, 1) := by decide +kernel
theorem d_Scan_passPart_0 : decode b_Scan_passPart 0 = .ok (.iload_n 1, 1) := by decide +kernel
theorem d_Scan_passPart_1 : decode b_Scan_passPart 1 = .ok (.invokestatic 100, 3) := by decide +kernel
theorem d_Scan_passPart_4 : decode b_Scan_passPart 4 = .ok (.aload_n 0, 1) := by decide +kernel
theorem d_Scan_passPart_5 : decode b_Scan_passPart 5 = .ok (.getfield 9, 3) := by decide +kernel
theorem d_Scan_passPart_8 : decode b_Scan_passPart 8 = .ok (.getfield 52, 3) := by decide +kernel
theorem d_Scan_passPart_11 : decode b_Scan_passPart 11 = .ok (.aload_n 0, 1) := by decide +kernel
theorem d_Scan_passPart_12 : decode b_Scan_passPart 12 = .ok (.getfield 15, 3) := by decide +kernel
theorem d_Scan_passPart_15 : decode b_Scan_passPart 15 = .ok (.isub, 1) := by decide +kernel
theorem d_Scan_passPart_16 : decode b_Scan_passPart 16 = .ok (.if_icmp .le 16, 3) := by decide +kernel
theorem d_Scan_passPart_19 : decode b_Scan_passPart 19 = .ok (.aload_n 0, 1) := by decide +kernel
theorem d_Scan_passPart_20 : decode b_Scan_passPart 20 = .ok (.iconst 1, 1) := by decide +kernel
theorem d_Scan_passPart_21 : decode b_Scan_passPart 21 = .ok (.aload_n 0, 1) := by decide +kernel
theorem d_Scan_passPart_22 : decode b_Scan_passPart 22 = .ok (.getfield 9, 3) := by decide +kernel
theorem d_Scan_passPart_25 : decode b_Scan_passPart 25 = .ok (.getfield 52, 3) := by decide +kernel
theorem d_Scan_passPart_28 : decode b_Scan_passPart 28 = .ok (.invokevirtual 57, 3) := by decide +kernel
theorem d_Scan_passPart_31 : decode b_Scan_passPart 31 = .ok (.return_, 1) := by decide +kernel
theorem d_Scan_passPart_32 : decode b_Scan_passPart 32 = .ok (.iload_n 2, 1) := by decide +kernel
theorem d_Scan_passPart_33 : decode b_Scan_passPart 33 = .ok (.istore_n 3, 1) := by decide +kernel
theorem d_Scan_passPart_34 : decode b_Scan_passPart 34 = .ok (.iload_n 3, 1) := by decide +kernel
theorem d_Scan_passPart_35 : decode b_Scan_passPart 35 = .ok (.bipush 16, 2) := by decide +kernel
theorem d_Scan_passPart_37 : decode b_Scan_passPart 37 = .ok (.if_icmp .ge 43, 3) := by decide +kernel
theorem d_Scan_passPart_40 : decode b_Scan_passPart 40 = .ok (.aload_n 0, 1) := by decide +kernel
theorem d_Scan_passPart_41 : decode b_Scan_passPart 41 = .ok (.getfield 9, 3) := by decide +kernel
theorem d_Scan_passPart_44 : decode b_Scan_passPart 44 = .ok (.aload_n 0, 1) := by decide +kernel
theorem d_Scan_passPart_45 : decode b_Scan_passPart 45 = .ok (.getfield 15, 3) := by decide +kernel
theorem d_Scan_passPart_48 : decode b_Scan_passPart 48 = .ok (.bipush 8, 2) := by decide +kernel
theorem d_Scan_passPart_50 : decode b_Scan_passPart 50 = .ok (.imul, 1) := by decide +kernel
theorem d_Scan_passPart_51 : decode b_Scan_passPart 51 = .ok (.iload_n 3, 1) := by decide +kernel
theorem d_Scan_passPart_52 : decode b_Scan_passPart 52 = .ok (.iload_n 1, 1) := by decide +kernel
theorem d_Scan_passPart_53 : decode b_Scan_passPart 53 = .ok (.imul, 1) := by decide +kernel
theorem d_Scan_passPart_54 : decode b_Scan_passPart 54 = .ok (.iadd, 1) := by decide +kernel
theorem d_Scan_passPart_55 : decode b_Scan_passPart 55 = .ok (.iload_n 1, 1) := by decide +kernel
theorem d_Scan_passPart_56 : decode b_Scan_passPart 56 = .ok (.invokevirtual 103, 3) := by decide +kernel
theorem d_Scan_passPart_59 : decode b_Scan_passPart 59 = .ok (.lconst 0, 1) := by decide +kernel
theorem d_Scan_passPart_60 : decode b_Scan_passPart 60 = .ok (.lcmp, 1) := by decide +kernel
theorem d_Scan_passPart_61 : decode b_Scan_passPart 61 = .ok (.ifCond .eq 13, 3) := by decide +kernel
theorem d_Scan_passPart_64 : decode b_Scan_passPart 64 = .ok (.aload_n 0, 1) := by decide +kernel
theorem d_Scan_passPart_65 : decode b_Scan_passPart 65 = .ok (.iconst 5, 1) := by decide +kernel
theorem d_Scan_passPart_66 : decode b_Scan_passPart 66 = .ok (.aload_n 0, 1) := by decide +kernel
theorem d_Scan_passPart_67 : decode b_Scan_passPart 67 = .ok (.getfield 15, 3) := by decide +kernel
theorem d_Scan_passPart_70 : decode b_Scan_passPart 70 = .ok (.invokevirtual 57, 3) := by decide +kernel
theorem d_Scan_passPart_73 : decode b_Scan_passPart 73 = .ok (.return_, 1) := by decide +kernel
theorem d_Scan_passPart_74 : decode b_Scan_passPart 74 = .ok (.iinc 3 1, 3) := by decide +kernel
theorem d_Scan_passPart_77 : decode b_Scan_passPart 77 = .ok (.goto (-43), 3) := by decide +kernel
theorem d_Scan_passPart_80 : decode b_Scan_passPart 80 = .ok (.aload_n 0, 1) := by decide +kernel
end
section
theorem d_Scan_passPart_81 : decode b_Scan_passPart 81 = .ok (.dup, 1) := by decide +kernel
theorem d_Scan_passPart_82 : decode b_Scan_passPart 82 = .ok (.getfield 15, 3) := by decide +kernel
theorem d_Scan_passPart_85 : decode b_Scan_passPart 85 = .ok (.iload_n 1, 1) := by decide +kernel
theorem d_Scan_passPart_86 : decode b_Scan_passPart 86 = .ok (.invokestatic 100, 3) := by decide +kernel
theorem d_Scan_passPart_89 : decode b_Scan_passPart 89 = .ok (.iadd, 1) := by decide +kernel
theorem d_Scan_passPart_90 : decode b_Scan_passPart 90 = .ok (.putfield 15, 3) := by decide +kernel
theorem d_Scan_passPart_93 : decode b_Scan_passPart 93 = .ok (.return_, 1) := by decide +kernel
theorem d_Scan_nextVarint_0 : decode b_Scan_nextVarint 0 = .ok (.aload_n 0, 1) := by decide +kernel
theorem d_Scan_nextVarint_1 : decode b_Scan_nextVarint 1 = .ok (.getfield 15, 3) := by decide +kernel
theorem d_Scan_nextVarint_4 : decode b_Scan_nextVarint 4 = .ok (.istore_n 1, 1) := by decide +kernel
theorem d_Scan_nextVarint_5 : decode b_Scan_nextVarint 5 = .ok (.lconst 0, 1) := by decide +kernel
theorem d_Scan_nextVarint_6 : decode b_Scan_nextVarint 6 = .ok (.lstore_n 2, 1) := by decide +kernel
theorem d_Scan_nextVarint_7 : decode b_Scan_nextVarint 7 = .ok (.iconst 0, 1) := by decide +kernel
theorem d_Scan_nextVarint_8 : decode b_Scan_nextVarint 8 = .ok (.istore 4, 2) := by decide +kernel
theorem d_Scan_nextVarint_10 : decode b_Scan_nextVarint 10 = .ok (.iload 4, 2) := by decide +kernel
theorem d_Scan_nextVarint_12 : decode b_Scan_nextVarint 12 = .ok (.bipush 10, 2) := by decide +kernel
theorem d_Scan_nextVarint_14 : decode b_Scan_nextVarint 14 = .ok (.if_icmp .ge 100, 3) := by decide +kernel
theorem d_Scan_nextVarint_17 : decode b_Scan_nextVarint 17 = .ok (.aload_n 0, 1) := by decide +kernel
theorem d_Scan_nextVarint_18 : decode b_Scan_nextVarint 18 = .ok (.invokevirtual 96, 3) := by decide +kernel
theorem d_Scan_nextVarint_21 : decode b_Scan_nextVarint 21 = .ok (.istore 5, 2) := by decide +kernel
theorem d_Scan_nextVarint_23 : decode b_Scan_nextVarint 23 = .ok (.aload_n 0, 1) := by decide +kernel
theorem d_Scan_nextVarint_24 : decode b_Scan_nextVarint 24 = .ok (.invokevirtual 44, 3) := by decide +kernel
theorem d_Scan_nextVarint_27 : decode b_Scan_nextVarint 27 = .ok (.ifCond .ne 5, 3) := by decide +kernel
theorem d_Scan_nextVarint_30 : decode b_Scan_nextVarint 30 = .ok (.lconst 0, 1) := by decide +kernel
theorem d_Scan_nextVarint_31 : decode b_Scan_nextVarint 31 = .ok (.lreturn, 1) := by decide +kernel
theorem d_Scan_nextVarint_32 : decode b_Scan_nextVarint 32 = .ok (.iload 4, 2) := by decide +kernel
theorem d_Scan_nextVarint_34 : decode b_Scan_nextVarint 34 = .ok (.bipush 9, 2) := by decide +kernel
theorem d_Scan_nextVarint_36 : decode b_Scan_nextVarint 36 = .ok (.if_icmp .ne 13, 3) := by decide +kernel
theorem d_Scan_nextVarint_39 : decode b_Scan_nextVarint 39 = .ok (.iload 5, 2) := by decide +kernel
theorem d_Scan_nextVarint_41 : decode b_Scan_nextVarint 41 = .ok (.iconst 1, 1) := by decide +kernel
theorem d_Scan_nextVarint_42 : decode b_Scan_nextVarint 42 = .ok (.if_icmp .le 7, 3) := by decide +kernel
theorem d_Scan_nextVarint_45 : decode b_Scan_nextVarint 45 = .ok (.iconst 1, 1) := by decide +kernel
theorem d_Scan_nextVarint_46 : decode b_Scan_nextVarint 46 = .ok (.goto 4, 3) := by decide +kernel
theorem d_Scan_nextVarint_49 : decode b_Scan_nextVarint 49 = .ok (.iconst 0, 1) := by decide +kernel
theorem d_Scan_nextVarint_50 : decode b_Scan_nextVarint 50 = .ok (.istore 6, 2) := by decide +kernel
theorem d_Scan_nextVarint_52 : decode b_Scan_nextVarint 52 = .ok (.iload 4, 2) := by decide +kernel
theorem d_Scan_nextVarint_54 : decode b_Scan_nextVarint 54 = .ok (.ifCond .le 12, 3) := by decide +kernel
theorem d_Scan_nextVarint_57 : decode b_Scan_nextVarint 57 = .ok (.iload 5, 2) := by decide +kernel
theorem d_Scan_nextVarint_59 : decode b_Scan_nextVarint 59 = .ok (.ifCond .ne 7, 3) := by decide +kernel
theorem d_Scan_nextVarint_62 : decode b_Scan_nextVarint 62 = .ok (.iconst 1, 1) := by decide +kernel
theorem d_Scan_nextVarint_63 : decode b_Scan_nextVarint 63 = .ok (.goto 4, 3) := by decide +kernel
theorem d_Scan_nextVarint_66 : decode b_Scan_nextVarint 66 = .ok (.iconst 0, 1) := by decide +kernel
theorem d_Scan_nextVarint_67 : decode b_Scan_nextVarint 67 = .ok (.istore 7, 2) := by decide +kernel
theorem d_Scan_nextVarint_69 : decode b_Scan_nextVarint 69 = .ok (.iload 6, 2) := by decide +kernel
theorem d_Scan_nextVarint_71 : decode b_Scan_nextVarint 71 = .ok (.ifCond .ne 43, 3) := by decide +kernel
theorem d_Scan_nextVarint_74 : decode b_Scan_nextVarint 74 = .ok (.iload 7, 2) := by decide +kernel
theorem d_Scan_nextVarint_76 : decode b_Scan_nextVarint 76 = .ok (.ifCond .eq 6, 3) := by decide +kernel
theorem d_Scan_nextVarint_79 : decode b_Scan_nextVarint 79 = .ok (.goto 35, 3) := by decide +kernel
theorem d_Scan_nextVarint_82 : decode b_Scan_nextVarint 82 = .ok (.lload_n 2, 1) := by decide +kernel
theorem d_Scan_nextVarint_83 : decode b_Scan_nextVarint 83 = .ok (.iload 5, 2) := by decide +kernel
theorem d_Scan_nextVarint_85 : decode b_Scan_nextVarint 85 = .ok (.i2l, 1) := by decide +kernel
theorem d_Scan_nextVarint_86 : decode b_Scan_nextVarint 86 = .ok (.ldc2_w 107, 3) := by decide +kernel
theorem d_Scan_nextVarint_89 : decode b_Scan_nextVarint 89 = .ok (.land, 1) := by decide +kernel
theorem d_Scan_nextVarint_90 : decode b_Scan_nextVarint 90 = .ok (.bipush 7, 2) := by decide +kernel
theorem d_Scan_nextVarint_92 : decode b_Scan_nextVarint 92 = .ok (.iload 4, 2) := by decide +kernel
theorem d_Scan_nextVarint_94 : decode b_Scan_nextVarint 94 = .ok (.imul, 1) := by decide +kernel
theorem d_Scan_nextVarint_95 : decode b_Scan_nextVarint 95 = .ok (.lshl, 1) := by decide +kernel
theorem d_Scan_nextVarint_96 : decode b_Scan_nextVarint 96 = .ok (.lor, 1) := by decide +kernel
theorem d_Scan_nextVarint_97 : decode b_Scan_nextVarint 97 = .ok (.lstore_n 2, 1) := by decide +kernel
theorem d_Scan_nextVarint_98 : decode b_Scan_nextVarint 98 = .ok (.iload 5, 2) := by decide +kernel
theorem d_Scan_nextVarint_100 : decode b_Scan_nextVarint 100 = .ok (.sipush 128, 3) := by decide +kernel
theorem d_Scan_nextVarint_103 : decode b_Scan_nextVarint 103 = .ok (.if_icmp .ge 5, 3) := by decide +kernel
theorem d_Scan_nextVarint_106 : decode b_Scan_nextVarint 106 = .ok (.lload_n 2, 1) := by decide +kernel
theorem d_Scan_nextVarint_107 : decode b_Scan_nextVarint 107 = .ok (.lreturn, 1) := by decide +kernel
theorem d_Scan_nextVarint_108 : decode b_Scan_nextVarint 108 = .ok (.iinc 4 1, 3) := by decide +kernel
theorem d_Scan_nextVarint_111 : decode b_Scan_nextVarint 111 = .ok (.goto (-101), 3) := by decide +kernel
theorem d_Scan_nextVarint_114 : decode b_Scan_nextVarint 114 = .ok (.aload_n 0, 1) := by decide +kernel
theorem d_Scan_nextVarint_115 : decode b_Scan_nextVarint 115 = .ok (.iconst 2, 1) := by decide +kernel
theorem d_Scan_nextVarint_116 : decode b_Scan_nextVarint 116 = .ok (.iload_n 1, 1) := by decide +kernel
theorem d_Scan_nextVarint_117 : decode b_Scan_nextVarint 117 = .ok (.invokevirtual 57, 3) := by decide +kernel
theorem d_Scan_nextVarint_120 : decode b_Scan_nextVarint 120 = .ok (.lconst 0, 1) := by decide +kernel
theorem d_Scan_nextVarint_121 : decode b_Scan_nextVarint 121 = .ok (.lreturn, 1) := by decide +kernel
theorem d_Scan_nextByte_0 : decode b_Scan_nextByte 0 = .ok (.aload_n 0, 1) := by decide +kernel
theorem d_Scan_nextByte_1 : decode b_Scan_nextByte 1 = .ok (.getfield 9, 3) := by decide +kernel
theorem d_Scan_nextByte_4 : decode b_Scan_nextByte 4 = .ok (.aload_n 0, 1) := by decide +kernel
theorem d_Scan_nextByte_5 : decode b_Scan_nextByte 5 = .ok (.getfield 15, 3) := by decide +kernel
theorem d_Scan_nextByte_8 : decode b_Scan_nextByte 8 = .ok (.invokevirtual 109, 3) := by decide +kernel
theorem d_Scan_nextByte_11 : decode b_Scan_nextByte 11 = .ok (.ifCond .ne 17, 3) := by decide +kernel
theorem d_Scan_nextByte_14 : decode b_Scan_nextByte 14 = .ok (.aload_n 0, 1) := by decide +kernel
theorem d_Scan_nextByte_15 : decode b_Scan_nextByte 15 = .ok (.iconst 1, 1) := by decide +kernel
theorem d_Scan_nextByte_16 : decode b_Scan_nextByte 16 = .ok (.aload_n 0, 1) := by decide +kernel
theorem d_Scan_nextByte_17 : decode b_Scan_nextByte 17 = .ok (.getfield 9, 3) := by decide +kernel
theorem d_Scan_nextByte_20 : decode b_Scan_nextByte 20 = .ok (.getfield 52, 3) := by decide +kernel
theorem d_Scan_nextByte_23 : decode b_Scan_nextByte 23 = .ok (.invokevirtual 57, 3) := by decide +kernel
theorem d_Scan_nextByte_26 : decode b_Scan_nextByte 26 = .ok (.iconst 0, 1) := by decide +kernel
theorem d_Scan_nextByte_27 : decode b_Scan_nextByte 27 = .ok (.ireturn, 1) := by decide +kernel
theorem d_Scan_nextByte_28 : decode b_Scan_nextByte 28 = .ok (.aload_n 0, 1) := by decide +kernel
theorem d_Scan_nextByte_29 : decode b_Scan_nextByte 29 = .ok (.getfield 9, 3) := by decide +kernel
theorem d_Scan_nextByte_32 : decode b_Scan_nextByte 32 = .ok (.aload_n 0, 1) := by decide +kernel
theorem d_Scan_nextByte_33 : decode b_Scan_nextByte 33 = .ok (.getfield 15, 3) := by decide +kernel
theorem d_Scan_nextByte_36 : decode b_Scan_nextByte 36 = .ok (.invokevirtual 113, 3) := by decide +kernel
theorem d_Scan_nextByte_39 : decode b_Scan_nextByte 39 = .ok (.istore_n 1, 1) := by decide +kernel
theorem d_Scan_nextByte_40 : decode b_Scan_nextByte 40 = .ok (.aload_n 0, 1) := by decide +kernel
theorem d_Scan_nextByte_41 : decode b_Scan_nextByte 41 = .ok (.dup, 1) := by decide +kernel
theorem d_Scan_nextByte_42 : decode b_Scan_nextByte 42 = .ok (.getfield 15, 3) := by decide +kernel
theorem d_Scan_nextByte_45 : decode b_Scan_nextByte 45 = .ok (.iconst 1, 1) := by decide +kernel
theorem d_Scan_nextByte_46 : decode b_Scan_nextByte 46 = .ok (.iadd, 1) := by decide +kernel
theorem d_Scan_nextByte_47 : decode b_Scan_nextByte 47 = .ok (.putfield 15, 3) := by decide +kernel
theorem d_Scan_nextByte_50 : decode b_Scan_nextByte 50 = .ok (.iload_n 1, 1) := by decide +kernel
theorem d_Scan_nextByte_51 : decode b_Scan_nextByte 51 = .ok (.ireturn, 1) := by decide +kernel
theorem d_Scan_isFaultless_0 : decode b_Scan_isFaultless 0 = .ok (.aload_n 0, 1) := by decide +kernel
theorem d_Scan_isFaultless_1 : decode b_Scan_isFaultless 1 = .ok (.getfield 19, 3) := by decide +kernel
theorem d_Scan_isFaultless_4 : decode b_Scan_isFaultless 4 = .ok (.ifCond .ne 7, 3) := by decide +kernel
theorem d_Scan_isFaultless_7 : decode b_Scan_isFaultless 7 = .ok (.iconst 1, 1) := by decide +kernel
theorem d_Scan_isFaultless_8 : decode b_Scan_isFaultless 8 = .ok (.goto 4, 3) := by decide +kernel
theorem d_Scan_isFaultless_11 : decode b_Scan_isFaultless 11 = .ok (.iconst 0, 1) := by decide +kernel
theorem d_Scan_isFaultless_12 : decode b_Scan_isFaultless 12 = .ok (.ireturn, 1) := by decide +kernel
theorem d_Scan_refuse_0 : decode b_Scan_refuse 0 = .ok (.aload_n 0, 1) := by decide +kernel
theorem d_Scan_refuse_1 : decode b_Scan_refuse 1 = .ok (.iload_n 1, 1) := by decide +kernel
theorem d_Scan_refuse_2 : decode b_Scan_refuse 2 = .ok (.putfield 19, 3) := by decide +kernel
theorem d_Scan_refuse_5 : decode b_Scan_refuse 5 = .ok (.aload_n 0, 1) := by decide +kernel
theorem d_Scan_refuse_6 : decode b_Scan_refuse 6 = .ok (.iload_n 2, 1) := by decide +kernel
theorem d_Scan_refuse_7 : decode b_Scan_refuse 7 = .ok (.putfield 22, 3) := by decide +kernel
theorem d_Scan_refuse_10 : decode b_Scan_refuse 10 = .ok (.return_, 1) := by decide +kernel
end
section
theorem d_DeltaRows_init_0 : decode b_DeltaRows_init 0 = .ok (.aload_n 0, 1) := by decide +kernel
theorem d_DeltaRows_init_1 : decode b_DeltaRows_init 1 = .ok (.invokespecial 3, 3) := by decide +kernel
theorem d_DeltaRows_init_4 : decode b_DeltaRows_init 4 = .ok (.aload_n 0, 1) := by decide +kernel
theorem d_DeltaRows_init_5 : decode b_DeltaRows_init 5 = .ok (.sipush 2000, 3) := by decide +kernel
theorem d_DeltaRows_init_8 : decode b_DeltaRows_init 8 = .ok (.newarray .long, 2) := by decide +kernel
theorem d_DeltaRows_init_10 : decode b_DeltaRows_init 10 = .ok (.putfield 9, 3) := by decide +kernel
theorem d_DeltaRows_init_13 : decode b_DeltaRows_init 13 = .ok (.aload_n 0, 1) := by decide +kernel
theorem d_DeltaRows_init_14 : decode b_DeltaRows_init 14 = .ok (.iconst 0, 1) := by decide +kernel
theorem d_DeltaRows_init_15 : decode b_DeltaRows_init 15 = .ok (.putfield 13, 3) := by decide +kernel
theorem d_DeltaRows_init_18 : decode b_DeltaRows_init 18 = .ok (.aload_n 0, 1) := by decide +kernel
theorem d_DeltaRows_init_19 : decode b_DeltaRows_init 19 = .ok (.new 17, 3) := by decide +kernel
theorem d_DeltaRows_init_22 : decode b_DeltaRows_init 22 = .ok (.dup, 1) := by decide +kernel
theorem d_DeltaRows_init_23 : decode b_DeltaRows_init 23 = .ok (.invokespecial 19, 3) := by decide +kernel
theorem d_DeltaRows_init_26 : decode b_DeltaRows_init 26 = .ok (.putfield 20, 3) := by decide +kernel
theorem d_DeltaRows_init_29 : decode b_DeltaRows_init 29 = .ok (.aload_n 0, 1) := by decide +kernel
theorem d_DeltaRows_init_30 : decode b_DeltaRows_init 30 = .ok (.new 24, 3) := by decide +kernel
theorem d_DeltaRows_init_33 : decode b_DeltaRows_init 33 = .ok (.dup, 1) := by decide +kernel
theorem d_DeltaRows_init_34 : decode b_DeltaRows_init 34 = .ok (.aload_n 0, 1) := by decide +kernel
theorem d_DeltaRows_init_35 : decode b_DeltaRows_init 35 = .ok (.getfield 20, 3) := by decide +kernel
theorem d_DeltaRows_init_38 : decode b_DeltaRows_init 38 = .ok (.invokespecial 26, 3) := by decide +kernel
theorem d_DeltaRows_init_41 : decode b_DeltaRows_init 41 = .ok (.putfield 29, 3) := by decide +kernel
theorem d_DeltaRows_init_44 : decode b_DeltaRows_init 44 = .ok (.aload_n 0, 1) := by decide +kernel
theorem d_DeltaRows_init_45 : decode b_DeltaRows_init 45 = .ok (.new 33, 3) := by decide +kernel
theorem d_DeltaRows_init_48 : decode b_DeltaRows_init 48 = .ok (.dup, 1) := by decide +kernel
theorem d_DeltaRows_init_49 : decode b_DeltaRows_init 49 = .ok (.invokespecial 35, 3) := by decide +kernel
theorem d_DeltaRows_init_52 : decode b_DeltaRows_init 52 = .ok (.putfield 36, 3) := by decide +kernel
theorem d_DeltaRows_init_55 : decode b_DeltaRows_init 55 = .ok (.aload_n 0, 1) := by decide +kernel
theorem d_DeltaRows_init_56 : decode b_DeltaRows_init 56 = .ok (.new 33, 3) := by decide +kernel
theorem d_DeltaRows_init_59 : decode b_DeltaRows_init 59 = .ok (.dup, 1) := by decide +kernel
theorem d_DeltaRows_init_60 : decode b_DeltaRows_init 60 = .ok (.invokespecial 35, 3) := by decide +kernel
theorem d_DeltaRows_init_63 : decode b_DeltaRows_init 63 = .ok (.putfield 40, 3) := by decide +kernel
theorem d_DeltaRows_init_66 : decode b_DeltaRows_init 66 = .ok (.return_, 1) := by decide +kernel
theorem d_DeltaRows_put_0 : decode b_DeltaRows_put 0 = .ok (.aload_n 0, 1) := by decide +kernel
theorem d_DeltaRows_put_1 : decode b_DeltaRows_put 1 = .ok (.getfield 13, 3) := by decide +kernel
theorem d_DeltaRows_put_4 : decode b_DeltaRows_put 4 = .ok (.sipush 2000, 3) := by decide +kernel
theorem d_DeltaRows_put_7 : decode b_DeltaRows_put 7 = .ok (.if_icmp .lt 5, 3) := by decide +kernel
theorem d_DeltaRows_put_10 : decode b_DeltaRows_put 10 = .ok (.iconst 0, 1) := by decide +kernel
theorem d_DeltaRows_put_11 : decode b_DeltaRows_put 11 = .ok (.ireturn, 1) := by decide +kernel
theorem d_DeltaRows_put_12 : decode b_DeltaRows_put 12 = .ok (.aload_n 0, 1) := by decide +kernel
theorem d_DeltaRows_put_13 : decode b_DeltaRows_put 13 = .ok (.getfield 9, 3) := by decide +kernel
theorem d_DeltaRows_put_16 : decode b_DeltaRows_put 16 = .ok (.aload_n 0, 1) := by decide +kernel
theorem d_DeltaRows_put_17 : decode b_DeltaRows_put 17 = .ok (.getfield 13, 3) := by decide +kernel
theorem d_DeltaRows_put_20 : decode b_DeltaRows_put 20 = .ok (.lload_n 1, 1) := by decide +kernel
theorem d_DeltaRows_put_21 : decode b_DeltaRows_put 21 = .ok (.lastore, 1) := by decide +kernel
theorem d_DeltaRows_put_22 : decode b_DeltaRows_put 22 = .ok (.aload_n 0, 1) := by decide +kernel
theorem d_DeltaRows_put_23 : decode b_DeltaRows_put 23 = .ok (.dup, 1) := by decide +kernel
theorem d_DeltaRows_put_24 : decode b_DeltaRows_put 24 = .ok (.getfield 13, 3) := by decide +kernel
theorem d_DeltaRows_put_27 : decode b_DeltaRows_put 27 = .ok (.iconst 1, 1) := by decide +kernel
theorem d_DeltaRows_put_28 : decode b_DeltaRows_put 28 = .ok (.iadd, 1) := by decide +kernel
theorem d_DeltaRows_put_29 : decode b_DeltaRows_put 29 = .ok (.putfield 13, 3) := by decide +kernel
theorem d_DeltaRows_put_32 : decode b_DeltaRows_put 32 = .ok (.iconst 1, 1) := by decide +kernel
theorem d_DeltaRows_put_33 : decode b_DeltaRows_put 33 = .ok (.ireturn, 1) := by decide +kernel
theorem d_DeltaRows_clear_0 : decode b_DeltaRows_clear 0 = .ok (.aload_n 0, 1) := by decide +kernel
theorem d_DeltaRows_clear_1 : decode b_DeltaRows_clear 1 = .ok (.iconst 0, 1) := by decide +kernel
theorem d_DeltaRows_clear_2 : decode b_DeltaRows_clear 2 = .ok (.putfield 13, 3) := by decide +kernel
theorem d_DeltaRows_clear_5 : decode b_DeltaRows_clear 5 = .ok (.return_, 1) := by decide +kernel
theorem d_DeltaRows_count_0 : decode b_DeltaRows_count 0 = .ok (.aload_n 0, 1) := by decide +kernel
theorem d_DeltaRows_count_1 : decode b_DeltaRows_count 1 = .ok (.getfield 13, 3) := by decide +kernel
theorem d_DeltaRows_count_4 : decode b_DeltaRows_count 4 = .ok (.ireturn, 1) := by decide +kernel
theorem d_DeltaRows_get_0 : decode b_DeltaRows_get 0 = .ok (.iload_n 1, 1) := by decide +kernel
theorem d_DeltaRows_get_1 : decode b_DeltaRows_get 1 = .ok (.ifCond .lt 20, 3) := by decide +kernel
theorem d_DeltaRows_get_4 : decode b_DeltaRows_get 4 = .ok (.iload_n 1, 1) := by decide +kernel
theorem d_DeltaRows_get_5 : decode b_DeltaRows_get 5 = .ok (.aload_n 0, 1) := by decide +kernel
theorem d_DeltaRows_get_6 : decode b_DeltaRows_get 6 = .ok (.getfield 13, 3) := by decide +kernel
theorem d_DeltaRows_get_9 : decode b_DeltaRows_get 9 = .ok (.if_icmp .ge 12, 3) := by decide +kernel
theorem d_DeltaRows_get_12 : decode b_DeltaRows_get 12 = .ok (.aload_n 0, 1) := by decide +kernel
theorem d_DeltaRows_get_13 : decode b_DeltaRows_get 13 = .ok (.getfield 9, 3) := by decide +kernel
theorem d_DeltaRows_get_16 : decode b_DeltaRows_get 16 = .ok (.iload_n 1, 1) := by decide +kernel
theorem d_DeltaRows_get_17 : decode b_DeltaRows_get 17 = .ok (.laload, 1) := by decide +kernel
theorem d_DeltaRows_get_18 : decode b_DeltaRows_get 18 = .ok (.goto 4, 3) := by decide +kernel
theorem d_DeltaRows_get_21 : decode b_DeltaRows_get 21 = .ok (.lconst 0, 1) := by decide +kernel
theorem d_DeltaRows_get_22 : decode b_DeltaRows_get 22 = .ok (.lreturn, 1) := by decide +kernel
theorem d_DeltaRows_write_0 : decode b_DeltaRows_write 0 = .ok (.aload_n 0, 1) := by decide +kernel
theorem d_DeltaRows_write_1 : decode b_DeltaRows_write 1 = .ok (.getfield 20, 3) := by decide +kernel
theorem d_DeltaRows_write_4 : decode b_DeltaRows_write 4 = .ok (.iconst 0, 1) := by decide +kernel
theorem d_DeltaRows_write_5 : decode b_DeltaRows_write 5 = .ok (.invokevirtual 43, 3) := by decide +kernel
theorem d_DeltaRows_write_8 : decode b_DeltaRows_write 8 = .ok (.aload_n 0, 1) := by decide +kernel
theorem d_DeltaRows_write_9 : decode b_DeltaRows_write 9 = .ok (.getfield 20, 3) := by decide +kernel
theorem d_DeltaRows_write_12 : decode b_DeltaRows_write 12 = .ok (.aload_n 0, 1) := by decide +kernel
theorem d_DeltaRows_write_13 : decode b_DeltaRows_write 13 = .ok (.getfield 13, 3) := by decide +kernel
theorem d_DeltaRows_write_16 : decode b_DeltaRows_write 16 = .ok (.i2l, 1) := by decide +kernel
theorem d_DeltaRows_write_17 : decode b_DeltaRows_write 17 = .ok (.invokevirtual 47, 3) := by decide +kernel
theorem d_DeltaRows_write_20 : decode b_DeltaRows_write 20 = .ok (.aload_n 0, 1) := by decide +kernel
theorem d_DeltaRows_write_21 : decode b_DeltaRows_write 21 = .ok (.getfield 13, 3) := by decide +kernel
theorem d_DeltaRows_write_24 : decode b_DeltaRows_write 24 = .ok (.ifCond .le 19, 3) := by decide +kernel
theorem d_DeltaRows_write_27 : decode b_DeltaRows_write 27 = .ok (.aload_n 0, 1) := by decide +kernel
theorem d_DeltaRows_write_28 : decode b_DeltaRows_write 28 = .ok (.getfield 20, 3) := by decide +kernel
theorem d_DeltaRows_write_31 : decode b_DeltaRows_write 31 = .ok (.aload_n 0, 1) := by decide +kernel
theorem d_DeltaRows_write_32 : decode b_DeltaRows_write 32 = .ok (.getfield 9, 3) := by decide +kernel
theorem d_DeltaRows_write_35 : decode b_DeltaRows_write 35 = .ok (.iconst 0, 1) := by decide +kernel
theorem d_DeltaRows_write_36 : decode b_DeltaRows_write 36 = .ok (.laload, 1) := by decide +kernel
theorem d_DeltaRows_write_37 : decode b_DeltaRows_write 37 = .ok (.invokestatic 51, 3) := by decide +kernel
theorem d_DeltaRows_write_40 : decode b_DeltaRows_write 40 = .ok (.invokevirtual 47, 3) := by decide +kernel
theorem d_DeltaRows_write_43 : decode b_DeltaRows_write 43 = .ok (.aload_n 0, 1) := by decide +kernel
theorem d_DeltaRows_write_44 : decode b_DeltaRows_write 44 = .ok (.getfield 36, 3) := by decide +kernel
theorem d_DeltaRows_write_47 : decode b_DeltaRows_write 47 = .ok (.aload_n 0, 1) := by decide +kernel
theorem d_DeltaRows_write_48 : decode b_DeltaRows_write 48 = .ok (.getfield 13, 3) := by decide +kernel
theorem d_DeltaRows_write_51 : decode b_DeltaRows_write 51 = .ok (.invokestatic 55, 3) := by decide +kernel
theorem d_DeltaRows_write_54 : decode b_DeltaRows_write 54 = .ok (.putfield 59, 3) := by decide +kernel
theorem d_DeltaRows_write_57 : decode b_DeltaRows_write 57 = .ok (.iconst 0, 1) := by decide +kernel
theorem d_DeltaRows_write_58 : decode b_DeltaRows_write 58 = .ok (.istore_n 1, 1) := by decide +kernel
theorem d_DeltaRows_write_59 : decode b_DeltaRows_write 59 = .ok (.iload_n 1, 1) := by decide +kernel
theorem d_DeltaRows_write_60 : decode b_DeltaRows_write 60 = .ok (.aload_n 0, 1) := by decide +kernel
theorem d_DeltaRows_write_61 : decode b_DeltaRows_write 61 = .ok (.getfield 36, 3) := by decide +kernel
theorem d_DeltaRows_write_64 : decode b_DeltaRows_write 64 = .ok (.getfield 59, 3) := by decide +kernel
theorem d_DeltaRows_write_67 : decode b_DeltaRows_write 67 = .ok (.if_icmp .ge 14, 3) := by decide +kernel
theorem d_DeltaRows_write_70 : decode b_DeltaRows_write 70 = .ok (.aload_n 0, 1) := by decide +kernel
theorem d_DeltaRows_write_71 : decode b_DeltaRows_write 71 = .ok (.iload_n 1, 1) := by decide +kernel
theorem d_DeltaRows_write_72 : decode b_DeltaRows_write 72 = .ok (.invokevirtual 62, 3) := by decide +kernel
theorem d_DeltaRows_write_75 : decode b_DeltaRows_write 75 = .ok (.iinc 1 1, 3) := by decide +kernel
theorem d_DeltaRows_write_78 : decode b_DeltaRows_write 78 = .ok (.goto (-19), 3) := by decide +kernel
theorem d_DeltaRows_write_81 : decode b_DeltaRows_write 81 = .ok (.aload_n 0, 1) := by decide +kernel
theorem d_DeltaRows_write_82 : decode b_DeltaRows_write 82 = .ok (.getfield 20, 3) := by decide +kernel
theorem d_DeltaRows_write_85 : decode b_DeltaRows_write 85 = .ok (.getfield 65, 3) := by decide +kernel
theorem d_DeltaRows_write_88 : decode b_DeltaRows_write 88 = .ok (.ireturn, 1) := by decide +kernel
theorem d_DeltaRows_read_0 : decode b_DeltaRows_read 0 = .ok (.aload_n 0, 1) := by decide +kernel
theorem d_DeltaRows_read_1 : decode b_DeltaRows_read 1 = .ok (.getfield 29, 3) := by decide +kernel
theorem d_DeltaRows_read_4 : decode b_DeltaRows_read 4 = .ok (.aload_n 0, 1) := by decide +kernel
theorem d_DeltaRows_read_5 : decode b_DeltaRows_read 5 = .ok (.getfield 40, 3) := by decide +kernel
theorem d_DeltaRows_read_8 : decode b_DeltaRows_read 8 = .ok (.invokevirtual 68, 3) := by decide +kernel
theorem d_DeltaRows_read_11 : decode b_DeltaRows_read 11 = .ok (.aload_n 0, 1) := by decide +kernel
theorem d_DeltaRows_read_12 : decode b_DeltaRows_read 12 = .ok (.getfield 29, 3) := by decide +kernel
theorem d_DeltaRows_read_15 : decode b_DeltaRows_read 15 = .ok (.getfield 72, 3) := by decide +kernel
theorem d_DeltaRows_read_18 : decode b_DeltaRows_read 18 = .ok (.ifCond .ne 25, 3) := by decide +kernel
theorem d_DeltaRows_read_21 : decode b_DeltaRows_read 21 = .ok (.aload_n 0, 1) := by decide +kernel
theorem d_DeltaRows_read_22 : decode b_DeltaRows_read 22 = .ok (.getfield 40, 3) := by decide +kernel
theorem d_DeltaRows_read_25 : decode b_DeltaRows_read 25 = .ok (.astore_n 1, 1) := by decide +kernel
theorem d_DeltaRows_read_26 : decode b_DeltaRows_read 26 = .ok (.aload_n 0, 1) := by decide +kernel
theorem d_DeltaRows_read_27 : decode b_DeltaRows_read 27 = .ok (.aload_n 0, 1) := by decide +kernel
theorem d_DeltaRows_read_28 : decode b_DeltaRows_read 28 = .ok (.getfield 36, 3) := by decide +kernel
theorem d_DeltaRows_read_31 : decode b_DeltaRows_read 31 = .ok (.putfield 40, 3) := by decide +kernel
theorem d_DeltaRows_read_34 : decode b_DeltaRows_read 34 = .ok (.aload_n 0, 1) := by decide +kernel
theorem d_DeltaRows_read_35 : decode b_DeltaRows_read 35 = .ok (.aload_n 1, 1) := by decide +kernel
theorem d_DeltaRows_read_36 : decode b_DeltaRows_read 36 = .ok (.putfield 36, 3) := by decide +kernel
theorem d_DeltaRows_read_39 : decode b_DeltaRows_read 39 = .ok (.aload_n 0, 1) := by decide +kernel
theorem d_DeltaRows_read_40 : decode b_DeltaRows_read 40 = .ok (.invokevirtual 75, 3) := by decide +kernel
theorem d_DeltaRows_read_43 : decode b_DeltaRows_read 43 = .ok (.aload_n 0, 1) := by decide +kernel
theorem d_DeltaRows_read_44 : decode b_DeltaRows_read 44 = .ok (.getfield 29, 3) := by decide +kernel
theorem d_DeltaRows_read_47 : decode b_DeltaRows_read 47 = .ok (.getfield 72, 3) := by decide +kernel
theorem d_DeltaRows_read_50 : decode b_DeltaRows_read 50 = .ok (.ireturn, 1) := by decide +kernel
theorem d_DeltaRows_place_0 : decode b_DeltaRows_place 0 = .ok (.aload_n 0, 1) := by decide +kernel
theorem d_DeltaRows_place_1 : decode b_DeltaRows_place 1 = .ok (.getfield 29, 3) := by decide +kernel
theorem d_DeltaRows_place_4 : decode b_DeltaRows_place 4 = .ok (.getfield 78, 3) := by decide +kernel
theorem d_DeltaRows_place_7 : decode b_DeltaRows_place 7 = .ok (.ireturn, 1) := by decide +kernel
theorem d_DeltaRows_size_0 : decode b_DeltaRows_size 0 = .ok (.aload_n 0, 1) := by decide +kernel
theorem d_DeltaRows_size_1 : decode b_DeltaRows_size 1 = .ok (.getfield 20, 3) := by decide +kernel
theorem d_DeltaRows_size_4 : decode b_DeltaRows_size 4 = .ok (.getfield 65, 3) := by decide +kernel
theorem d_DeltaRows_size_7 : decode b_DeltaRows_size 7 = .ok (.ireturn, 1) := by decide +kernel
theorem d_DeltaRows_byteAt_0 : decode b_DeltaRows_byteAt 0 = .ok (.aload_n 0, 1) := by decide +kernel
theorem d_DeltaRows_byteAt_1 : decode b_DeltaRows_byteAt 1 = .ok (.getfield 20, 3) := by decide +kernel
theorem d_DeltaRows_byteAt_4 : decode b_DeltaRows_byteAt 4 = .ok (.iload_n 1, 1) := by decide +kernel
theorem d_DeltaRows_byteAt_5 : decode b_DeltaRows_byteAt 5 = .ok (.invokevirtual 81, 3) := by decide +kernel
theorem d_DeltaRows_byteAt_8 : decode b_DeltaRows_byteAt 8 = .ok (.ifCond .eq 14, 3) := by decide +kernel
theorem d_DeltaRows_byteAt_11 : decode b_DeltaRows_byteAt 11 = .ok (.aload_n 0, 1) := by decide +kernel
theorem d_DeltaRows_byteAt_12 : decode b_DeltaRows_byteAt 12 = .ok (.getfield 20, 3) := by decide +kernel
theorem d_DeltaRows_byteAt_15 : decode b_DeltaRows_byteAt 15 = .ok (.iload_n 1, 1) := by decide +kernel
theorem d_DeltaRows_byteAt_16 : decode b_DeltaRows_byteAt 16 = .ok (.invokevirtual 85, 3) := by decide +kernel
theorem d_DeltaRows_byteAt_19 : decode b_DeltaRows_byteAt 19 = .ok (.goto 4, 3) := by decide +kernel
theorem d_DeltaRows_byteAt_22 : decode b_DeltaRows_byteAt 22 = .ok (.iconst (-1), 1) := by decide +kernel
theorem d_DeltaRows_byteAt_23 : decode b_DeltaRows_byteAt 23 = .ok (.ireturn, 1) := by decide +kernel
theorem d_DeltaRows_setByte_0 : decode b_DeltaRows_setByte 0 = .ok (.aload_n 0, 1) := by decide +kernel
theorem d_DeltaRows_setByte_1 : decode b_DeltaRows_setByte 1 = .ok (.getfield 20, 3) := by decide +kernel
theorem d_DeltaRows_setByte_4 : decode b_DeltaRows_setByte 4 = .ok (.iload_n 1, 1) := by decide +kernel
theorem d_DeltaRows_setByte_5 : decode b_DeltaRows_setByte 5 = .ok (.invokevirtual 81, 3) := by decide +kernel
theorem d_DeltaRows_setByte_8 : decode b_DeltaRows_setByte 8 = .ok (.ifCond .ne 5, 3) := by decide +kernel
theorem d_DeltaRows_setByte_11 : decode b_DeltaRows_setByte 11 = .ok (.iconst 0, 1) := by decide +kernel
theorem d_DeltaRows_setByte_12 : decode b_DeltaRows_setByte 12 = .ok (.ireturn, 1) := by decide +kernel
theorem d_DeltaRows_setByte_13 : decode b_DeltaRows_setByte 13 = .ok (.aload_n 0, 1) := by decide +kernel
theorem d_DeltaRows_setByte_14 : decode b_DeltaRows_setByte 14 = .ok (.getfield 20, 3) := by decide +kernel
theorem d_DeltaRows_setByte_17 : decode b_DeltaRows_setByte 17 = .ok (.iload_n 1, 1) := by decide +kernel
theorem d_DeltaRows_setByte_18 : decode b_DeltaRows_setByte 18 = .ok (.iload_n 2, 1) := by decide +kernel
theorem d_DeltaRows_setByte_19 : decode b_DeltaRows_setByte 19 = .ok (.invokevirtual 88, 3) := by decide +kernel
theorem d_DeltaRows_setByte_22 : decode b_DeltaRows_setByte 22 = .ok (.iconst 1, 1) := by decide +kernel
theorem d_DeltaRows_setByte_23 : decode b_DeltaRows_setByte 23 = .ok (.ireturn, 1) := by decide +kernel
theorem d_DeltaRows_append_0 : decode b_DeltaRows_append 0 = .ok (.aload_n 0, 1) := by decide +kernel
theorem d_DeltaRows_append_1 : decode b_DeltaRows_append 1 = .ok (.getfield 20, 3) := by decide +kernel
theorem d_DeltaRows_append_4 : decode b_DeltaRows_append 4 = .ok (.iload_n 1, 1) := by decide +kernel
theorem d_DeltaRows_append_5 : decode b_DeltaRows_append 5 = .ok (.invokevirtual 92, 3) := by decide +kernel
theorem d_DeltaRows_append_8 : decode b_DeltaRows_append 8 = .ok (.ireturn, 1) := by decide +kernel
theorem d_DeltaRows_cut_0 : decode b_DeltaRows_cut 0 = .ok (.iload_n 1, 1) := by decide +kernel
theorem d_DeltaRows_cut_1 : decode b_DeltaRows_cut 1 = .ok (.ifCond .lt 14, 3) := by decide +kernel
theorem d_DeltaRows_cut_4 : decode b_DeltaRows_cut 4 = .ok (.iload_n 1, 1) := by decide +kernel
theorem d_DeltaRows_cut_5 : decode b_DeltaRows_cut 5 = .ok (.aload_n 0, 1) := by decide +kernel
theorem d_DeltaRows_cut_6 : decode b_DeltaRows_cut 6 = .ok (.getfield 20, 3) := by decide +kernel
theorem d_DeltaRows_cut_9 : decode b_DeltaRows_cut 9 = .ok (.getfield 65, 3) := by decide +kernel
theorem d_DeltaRows_cut_12 : decode b_DeltaRows_cut 12 = .ok (.if_icmp .le 5, 3) := by decide +kernel
theorem d_DeltaRows_cut_15 : decode b_DeltaRows_cut 15 = .ok (.iconst 0, 1) := by decide +kernel
theorem d_DeltaRows_cut_16 : decode b_DeltaRows_cut 16 = .ok (.ireturn, 1) := by decide +kernel
theorem d_DeltaRows_cut_17 : decode b_DeltaRows_cut 17 = .ok (.aload_n 0, 1) := by decide +kernel
theorem d_DeltaRows_cut_18 : decode b_DeltaRows_cut 18 = .ok (.getfield 20, 3) := by decide +kernel
theorem d_DeltaRows_cut_21 : decode b_DeltaRows_cut 21 = .ok (.iload_n 1, 1) := by decide +kernel
theorem d_DeltaRows_cut_22 : decode b_DeltaRows_cut 22 = .ok (.invokevirtual 43, 3) := by decide +kernel
theorem d_DeltaRows_cut_25 : decode b_DeltaRows_cut 25 = .ok (.iconst 1, 1) := by decide +kernel
theorem d_DeltaRows_cut_26 : decode b_DeltaRows_cut 26 = .ok (.ireturn, 1) := by decide +kernel
theorem d_DeltaRows_blocks_0 : decode b_DeltaRows_blocks 0 = .ok (.aload_n 0, 1) := by decide +kernel
theorem d_DeltaRows_blocks_1 : decode b_DeltaRows_blocks 1 = .ok (.getfield 36, 3) := by decide +kernel
theorem d_DeltaRows_blocks_4 : decode b_DeltaRows_blocks 4 = .ok (.getfield 59, 3) := by decide +kernel
theorem d_DeltaRows_blocks_7 : decode b_DeltaRows_blocks 7 = .ok (.ireturn, 1) := by decide +kernel
theorem d_DeltaRows_least_0 : decode b_DeltaRows_least 0 = .ok (.aload_n 0, 1) := by decide +kernel
theorem d_DeltaRows_least_1 : decode b_DeltaRows_least 1 = .ok (.getfield 36, 3) := by decide +kernel
theorem d_DeltaRows_least_4 : decode b_DeltaRows_least 4 = .ok (.iload_n 1, 1) := by decide +kernel
theorem d_DeltaRows_least_5 : decode b_DeltaRows_least 5 = .ok (.invokevirtual 95, 3) := by decide +kernel
theorem d_DeltaRows_least_8 : decode b_DeltaRows_least 8 = .ok (.ifCond .eq 15, 3) := by decide +kernel
theorem d_DeltaRows_least_11 : decode b_DeltaRows_least 11 = .ok (.aload_n 0, 1) := by decide +kernel
theorem d_DeltaRows_least_12 : decode b_DeltaRows_least 12 = .ok (.getfield 36, 3) := by decide +kernel
theorem d_DeltaRows_least_15 : decode b_DeltaRows_least 15 = .ok (.getfield 98, 3) := by decide +kernel
theorem d_DeltaRows_least_18 : decode b_DeltaRows_least 18 = .ok (.iload_n 1, 1) := by decide +kernel
theorem d_DeltaRows_least_19 : decode b_DeltaRows_least 19 = .ok (.laload, 1) := by decide +kernel
theorem d_DeltaRows_least_20 : decode b_DeltaRows_least 20 = .ok (.goto 4, 3) := by decide +kernel
theorem d_DeltaRows_least_23 : decode b_DeltaRows_least 23 = .ok (.lconst 0, 1) := by decide +kernel
theorem d_DeltaRows_least_24 : decode b_DeltaRows_least 24 = .ok (.lreturn, 1) := by decide +kernel
theorem d_DeltaRows_width_0 : decode b_DeltaRows_width 0 = .ok (.aload_n 0, 1) := by decide +kernel
theorem d_DeltaRows_width_1 : decode b_DeltaRows_width 1 = .ok (.getfield 36, 3) := by decide +kernel
theorem d_DeltaRows_width_4 : decode b_DeltaRows_width 4 = .ok (.iload_n 1, 1) := by decide +kernel
theorem d_DeltaRows_width_5 : decode b_DeltaRows_width 5 = .ok (.iload_n 2, 1) := by decide +kernel
theorem d_DeltaRows_width_6 : decode b_DeltaRows_width 6 = .ok (.invokevirtual 101, 3) := by decide +kernel
theorem d_DeltaRows_width_9 : decode b_DeltaRows_width 9 = .ok (.ifCond .eq 19, 3) := by decide +kernel
theorem d_DeltaRows_width_12 : decode b_DeltaRows_width 12 = .ok (.aload_n 0, 1) := by decide +kernel
theorem d_DeltaRows_width_13 : decode b_DeltaRows_width 13 = .ok (.getfield 36, 3) := by decide +kernel
theorem d_DeltaRows_width_16 : decode b_DeltaRows_width 16 = .ok (.getfield 105, 3) := by decide +kernel
theorem d_DeltaRows_width_19 : decode b_DeltaRows_width 19 = .ok (.iload_n 1, 1) := by decide +kernel
theorem d_DeltaRows_width_20 : decode b_DeltaRows_width 20 = .ok (.iconst 4, 1) := by decide +kernel
theorem d_DeltaRows_width_21 : decode b_DeltaRows_width 21 = .ok (.imul, 1) := by decide +kernel
theorem d_DeltaRows_width_22 : decode b_DeltaRows_width 22 = .ok (.iload_n 2, 1) := by decide +kernel
theorem d_DeltaRows_width_23 : decode b_DeltaRows_width 23 = .ok (.iadd, 1) := by decide +kernel
theorem d_DeltaRows_width_24 : decode b_DeltaRows_width 24 = .ok (.iaload, 1) := by decide +kernel
theorem d_DeltaRows_width_25 : decode b_DeltaRows_width 25 = .ok (.goto 4, 3) := by decide +kernel
theorem d_DeltaRows_width_28 : decode b_DeltaRows_width 28 = .ok (.iconst (-1), 1) := by decide +kernel
theorem d_DeltaRows_width_29 : decode b_DeltaRows_width 29 = .ok (.ireturn, 1) := by decide +kernel
theorem d_DeltaRows_start_0 : decode b_DeltaRows_start 0 = .ok (.aload_n 0, 1) := by decide +kernel
theorem d_DeltaRows_start_1 : decode b_DeltaRows_start 1 = .ok (.getfield 36, 3) := by decide +kernel
theorem d_DeltaRows_start_4 : decode b_DeltaRows_start 4 = .ok (.iload_n 1, 1) := by decide +kernel
theorem d_DeltaRows_start_5 : decode b_DeltaRows_start 5 = .ok (.iload_n 2, 1) := by decide +kernel
theorem d_DeltaRows_start_6 : decode b_DeltaRows_start 6 = .ok (.invokevirtual 101, 3) := by decide +kernel
theorem d_DeltaRows_start_9 : decode b_DeltaRows_start 9 = .ok (.ifCond .eq 19, 3) := by decide +kernel
theorem d_DeltaRows_start_12 : decode b_DeltaRows_start 12 = .ok (.aload_n 0, 1) := by decide +kernel
theorem d_DeltaRows_start_13 : decode b_DeltaRows_start 13 = .ok (.getfield 36, 3) := by decide +kernel
theorem d_DeltaRows_start_16 : decode b_DeltaRows_start 16 = .ok (.getfield 109, 3) := by decide +kernel
theorem d_DeltaRows_start_19 : decode b_DeltaRows_start 19 = .ok (.iload_n 1, 1) := by decide +kernel
theorem d_DeltaRows_start_20 : decode b_DeltaRows_start 20 = .ok (.iconst 4, 1) := by decide +kernel
theorem d_DeltaRows_start_21 : decode b_DeltaRows_start 21 = .ok (.imul, 1) := by decide +kernel
theorem d_DeltaRows_start_22 : decode b_DeltaRows_start 22 = .ok (.iload_n 2, 1) := by decide +kernel
theorem d_DeltaRows_start_23 : decode b_DeltaRows_start 23 = .ok (.iadd, 1) := by decide +kernel
theorem d_DeltaRows_start_24 : decode b_DeltaRows_start 24 = .ok (.iaload, 1) := by decide +kernel
theorem d_DeltaRows_start_25 : decode b_DeltaRows_start 25 = .ok (.goto 4, 3) := by decide +kernel
theorem d_DeltaRows_start_28 : decode b_DeltaRows_start 28 = .ok (.iconst (-1), 1) := by decide +kernel
theorem d_DeltaRows_start_29 : decode b_DeltaRows_start 29 = .ok (.ireturn, 1) := by decide +kernel
theorem d_DeltaRows_writeBlock_0 : decode b_DeltaRows_writeBlock 0 = .ok (.aload_n 0, 1) := by decide +kernel
theorem d_DeltaRows_writeBlock_1 : decode b_DeltaRows_writeBlock 1 = .ok (.iload_n 1, 1) := by decide +kernel
theorem d_DeltaRows_writeBlock_2 : decode b_DeltaRows_writeBlock 2 = .ok (.invokevirtual 112, 3) := by decide +kernel
end
section
theorem d_DeltaRows_writeBlock_5 : decode b_DeltaRows_writeBlock 5 = .ok (.lstore_n 2, 1) := by decide +kernel
theorem d_DeltaRows_writeBlock_6 : decode b_DeltaRows_writeBlock 6 = .ok (.aload_n 0, 1) := by decide +kernel
theorem d_DeltaRows_writeBlock_7 : decode b_DeltaRows_writeBlock 7 = .ok (.getfield 36, 3) := by decide +kernel
theorem d_DeltaRows_writeBlock_10 : decode b_DeltaRows_writeBlock 10 = .ok (.getfield 98, 3) := by decide +kernel
theorem d_DeltaRows_writeBlock_13 : decode b_DeltaRows_writeBlock 13 = .ok (.iload_n 1, 1) := by decide +kernel
theorem d_DeltaRows_writeBlock_14 : decode b_DeltaRows_writeBlock 14 = .ok (.lload_n 2, 1) := by decide +kernel
theorem d_DeltaRows_writeBlock_15 : decode b_DeltaRows_writeBlock 15 = .ok (.lastore, 1) := by decide +kernel
theorem d_DeltaRows_writeBlock_16 : decode b_DeltaRows_writeBlock 16 = .ok (.aload_n 0, 1) := by decide +kernel
theorem d_DeltaRows_writeBlock_17 : decode b_DeltaRows_writeBlock 17 = .ok (.getfield 20, 3) := by decide +kernel
theorem d_DeltaRows_writeBlock_20 : decode b_DeltaRows_writeBlock 20 = .ok (.lload_n 2, 1) := by decide +kernel
theorem d_DeltaRows_writeBlock_21 : decode b_DeltaRows_writeBlock 21 = .ok (.invokestatic 51, 3) := by decide +kernel
theorem d_DeltaRows_writeBlock_24 : decode b_DeltaRows_writeBlock 24 = .ok (.invokevirtual 47, 3) := by decide +kernel
theorem d_DeltaRows_writeBlock_27 : decode b_DeltaRows_writeBlock 27 = .ok (.iconst 0, 1) := by decide +kernel
theorem d_DeltaRows_writeBlock_28 : decode b_DeltaRows_writeBlock 28 = .ok (.istore 4, 2) := by decide +kernel
theorem d_DeltaRows_writeBlock_30 : decode b_DeltaRows_writeBlock 30 = .ok (.iload 4, 2) := by decide +kernel
theorem d_DeltaRows_writeBlock_32 : decode b_DeltaRows_writeBlock 32 = .ok (.iconst 4, 1) := by decide +kernel
theorem d_DeltaRows_writeBlock_33 : decode b_DeltaRows_writeBlock 33 = .ok (.if_icmp .ge 44, 3) := by decide +kernel
theorem d_DeltaRows_writeBlock_36 : decode b_DeltaRows_writeBlock 36 = .ok (.aload_n 0, 1) := by decide +kernel
theorem d_DeltaRows_writeBlock_37 : decode b_DeltaRows_writeBlock 37 = .ok (.iload_n 1, 1) := by decide +kernel
theorem d_DeltaRows_writeBlock_38 : decode b_DeltaRows_writeBlock 38 = .ok (.iload 4, 2) := by decide +kernel
theorem d_DeltaRows_writeBlock_40 : decode b_DeltaRows_writeBlock 40 = .ok (.invokevirtual 116, 3) := by decide +kernel
theorem d_DeltaRows_writeBlock_43 : decode b_DeltaRows_writeBlock 43 = .ok (.istore 5, 2) := by decide +kernel
theorem d_DeltaRows_writeBlock_45 : decode b_DeltaRows_writeBlock 45 = .ok (.aload_n 0, 1) := by decide +kernel
theorem d_DeltaRows_writeBlock_46 : decode b_DeltaRows_writeBlock 46 = .ok (.getfield 36, 3) := by decide +kernel
theorem d_DeltaRows_writeBlock_49 : decode b_DeltaRows_writeBlock 49 = .ok (.getfield 105, 3) := by decide +kernel
theorem d_DeltaRows_writeBlock_52 : decode b_DeltaRows_writeBlock 52 = .ok (.iload_n 1, 1) := by decide +kernel
theorem d_DeltaRows_writeBlock_53 : decode b_DeltaRows_writeBlock 53 = .ok (.iconst 4, 1) := by decide +kernel
theorem d_DeltaRows_writeBlock_54 : decode b_DeltaRows_writeBlock 54 = .ok (.imul, 1) := by decide +kernel
theorem d_DeltaRows_writeBlock_55 : decode b_DeltaRows_writeBlock 55 = .ok (.iload 4, 2) := by decide +kernel
theorem d_DeltaRows_writeBlock_57 : decode b_DeltaRows_writeBlock 57 = .ok (.iadd, 1) := by decide +kernel
theorem d_DeltaRows_writeBlock_58 : decode b_DeltaRows_writeBlock 58 = .ok (.iload 5, 2) := by decide +kernel
theorem d_DeltaRows_writeBlock_60 : decode b_DeltaRows_writeBlock 60 = .ok (.iastore, 1) := by decide +kernel
theorem d_DeltaRows_writeBlock_61 : decode b_DeltaRows_writeBlock 61 = .ok (.aload_n 0, 1) := by decide +kernel
theorem d_DeltaRows_writeBlock_62 : decode b_DeltaRows_writeBlock 62 = .ok (.getfield 20, 3) := by decide +kernel
theorem d_DeltaRows_writeBlock_65 : decode b_DeltaRows_writeBlock 65 = .ok (.iload 5, 2) := by decide +kernel
theorem d_DeltaRows_writeBlock_67 : decode b_DeltaRows_writeBlock 67 = .ok (.invokevirtual 92, 3) := by decide +kernel
theorem d_DeltaRows_writeBlock_70 : decode b_DeltaRows_writeBlock 70 = .ok (.pop, 1) := by decide +kernel
theorem d_DeltaRows_writeBlock_71 : decode b_DeltaRows_writeBlock 71 = .ok (.iinc 4 1, 3) := by decide +kernel
theorem d_DeltaRows_writeBlock_74 : decode b_DeltaRows_writeBlock 74 = .ok (.goto (-44), 3) := by decide +kernel
theorem d_DeltaRows_writeBlock_77 : decode b_DeltaRows_writeBlock 77 = .ok (.iconst 0, 1) := by decide +kernel
theorem d_DeltaRows_writeBlock_78 : decode b_DeltaRows_writeBlock 78 = .ok (.istore 4, 2) := by decide +kernel
theorem d_DeltaRows_writeBlock_80 : decode b_DeltaRows_writeBlock 80 = .ok (.iload 4, 2) := by decide +kernel
theorem d_DeltaRows_writeBlock_82 : decode b_DeltaRows_writeBlock 82 = .ok (.iconst 4, 1) := by decide +kernel
theorem d_DeltaRows_writeBlock_83 : decode b_DeltaRows_writeBlock 83 = .ok (.if_icmp .ge 37, 3) := by decide +kernel
theorem d_DeltaRows_writeBlock_86 : decode b_DeltaRows_writeBlock 86 = .ok (.aload_n 0, 1) := by decide +kernel
theorem d_DeltaRows_writeBlock_87 : decode b_DeltaRows_writeBlock 87 = .ok (.getfield 36, 3) := by decide +kernel
theorem d_DeltaRows_writeBlock_90 : decode b_DeltaRows_writeBlock 90 = .ok (.getfield 109, 3) := by decide +kernel
theorem d_DeltaRows_writeBlock_93 : decode b_DeltaRows_writeBlock 93 = .ok (.iload_n 1, 1) := by decide +kernel
theorem d_DeltaRows_writeBlock_94 : decode b_DeltaRows_writeBlock 94 = .ok (.iconst 4, 1) := by decide +kernel
theorem d_DeltaRows_writeBlock_95 : decode b_DeltaRows_writeBlock 95 = .ok (.imul, 1) := by decide +kernel
theorem d_DeltaRows_writeBlock_96 : decode b_DeltaRows_writeBlock 96 = .ok (.iload 4, 2) := by decide +kernel
theorem d_DeltaRows_writeBlock_98 : decode b_DeltaRows_writeBlock 98 = .ok (.iadd, 1) := by decide +kernel
theorem d_DeltaRows_writeBlock_99 : decode b_DeltaRows_writeBlock 99 = .ok (.aload_n 0, 1) := by decide +kernel
theorem d_DeltaRows_writeBlock_100 : decode b_DeltaRows_writeBlock 100 = .ok (.getfield 20, 3) := by decide +kernel
theorem d_DeltaRows_writeBlock_103 : decode b_DeltaRows_writeBlock 103 = .ok (.getfield 65, 3) := by decide +kernel
theorem d_DeltaRows_writeBlock_106 : decode b_DeltaRows_writeBlock 106 = .ok (.iastore, 1) := by decide +kernel
theorem d_DeltaRows_writeBlock_107 : decode b_DeltaRows_writeBlock 107 = .ok (.aload_n 0, 1) := by decide +kernel
theorem d_DeltaRows_writeBlock_108 : decode b_DeltaRows_writeBlock 108 = .ok (.iload_n 1, 1) := by decide +kernel
theorem d_DeltaRows_writeBlock_109 : decode b_DeltaRows_writeBlock 109 = .ok (.iload 4, 2) := by decide +kernel
theorem d_DeltaRows_writeBlock_111 : decode b_DeltaRows_writeBlock 111 = .ok (.invokevirtual 120, 3) := by decide +kernel
theorem d_DeltaRows_writeBlock_114 : decode b_DeltaRows_writeBlock 114 = .ok (.iinc 4 1, 3) := by decide +kernel
theorem d_DeltaRows_writeBlock_117 : decode b_DeltaRows_writeBlock 117 = .ok (.goto (-37), 3) := by decide +kernel
theorem d_DeltaRows_writeBlock_120 : decode b_DeltaRows_writeBlock 120 = .ok (.return_, 1) := by decide +kernel
theorem d_DeltaRows_leastDifference_0 : decode b_DeltaRows_leastDifference 0 = .ok (.iload_n 1, 1) := by decide +kernel
theorem d_DeltaRows_leastDifference_1 : decode b_DeltaRows_leastDifference 1 = .ok (.iconst 0, 1) := by decide +kernel
theorem d_DeltaRows_leastDifference_2 : decode b_DeltaRows_leastDifference 2 = .ok (.aload_n 0, 1) := by decide +kernel
theorem d_DeltaRows_leastDifference_3 : decode b_DeltaRows_leastDifference 3 = .ok (.getfield 13, 3) := by decide +kernel
theorem d_DeltaRows_leastDifference_6 : decode b_DeltaRows_leastDifference 6 = .ok (.invokestatic 123, 3) := by decide +kernel
theorem d_DeltaRows_leastDifference_9 : decode b_DeltaRows_leastDifference 9 = .ok (.istore_n 2, 1) := by decide +kernel
theorem d_DeltaRows_leastDifference_10 : decode b_DeltaRows_leastDifference 10 = .ok (.iload_n 1, 1) := by decide +kernel
theorem d_DeltaRows_leastDifference_11 : decode b_DeltaRows_leastDifference 11 = .ok (.iconst 4, 1) := by decide +kernel
theorem d_DeltaRows_leastDifference_12 : decode b_DeltaRows_leastDifference 12 = .ok (.aload_n 0, 1) := by decide +kernel
theorem d_DeltaRows_leastDifference_13 : decode b_DeltaRows_leastDifference 13 = .ok (.getfield 13, 3) := by decide +kernel
theorem d_DeltaRows_leastDifference_16 : decode b_DeltaRows_leastDifference 16 = .ok (.invokestatic 123, 3) := by decide +kernel
theorem d_DeltaRows_leastDifference_19 : decode b_DeltaRows_leastDifference 19 = .ok (.istore_n 3, 1) := by decide +kernel
theorem d_DeltaRows_leastDifference_20 : decode b_DeltaRows_leastDifference 20 = .ok (.aload_n 0, 1) := by decide +kernel
theorem d_DeltaRows_leastDifference_21 : decode b_DeltaRows_leastDifference 21 = .ok (.getfield 9, 3) := by decide +kernel
theorem d_DeltaRows_leastDifference_24 : decode b_DeltaRows_leastDifference 24 = .ok (.iload_n 2, 1) := by decide +kernel
theorem d_DeltaRows_leastDifference_25 : decode b_DeltaRows_leastDifference 25 = .ok (.laload, 1) := by decide +kernel
theorem d_DeltaRows_leastDifference_26 : decode b_DeltaRows_leastDifference 26 = .ok (.aload_n 0, 1) := by decide +kernel
theorem d_DeltaRows_leastDifference_27 : decode b_DeltaRows_leastDifference 27 = .ok (.getfield 9, 3) := by decide +kernel
theorem d_DeltaRows_leastDifference_30 : decode b_DeltaRows_leastDifference 30 = .ok (.iload_n 2, 1) := by decide +kernel
theorem d_DeltaRows_leastDifference_31 : decode b_DeltaRows_leastDifference 31 = .ok (.iconst 1, 1) := by decide +kernel
theorem d_DeltaRows_leastDifference_32 : decode b_DeltaRows_leastDifference 32 = .ok (.isub, 1) := by decide +kernel
theorem d_DeltaRows_leastDifference_33 : decode b_DeltaRows_leastDifference 33 = .ok (.laload, 1) := by decide +kernel
theorem d_DeltaRows_leastDifference_34 : decode b_DeltaRows_leastDifference 34 = .ok (.lsub, 1) := by decide +kernel
theorem d_DeltaRows_leastDifference_35 : decode b_DeltaRows_leastDifference 35 = .ok (.lstore 4, 2) := by decide +kernel
theorem d_DeltaRows_leastDifference_37 : decode b_DeltaRows_leastDifference 37 = .ok (.iload_n 2, 1) := by decide +kernel
theorem d_DeltaRows_leastDifference_38 : decode b_DeltaRows_leastDifference 38 = .ok (.iconst 1, 1) := by decide +kernel
theorem d_DeltaRows_leastDifference_39 : decode b_DeltaRows_leastDifference 39 = .ok (.iadd, 1) := by decide +kernel
theorem d_DeltaRows_leastDifference_40 : decode b_DeltaRows_leastDifference 40 = .ok (.istore 6, 2) := by decide +kernel
theorem d_DeltaRows_leastDifference_42 : decode b_DeltaRows_leastDifference 42 = .ok (.iload 6, 2) := by decide +kernel
theorem d_DeltaRows_leastDifference_44 : decode b_DeltaRows_leastDifference 44 = .ok (.iload_n 3, 1) := by decide +kernel
theorem d_DeltaRows_leastDifference_45 : decode b_DeltaRows_leastDifference 45 = .ok (.if_icmp .ge 33, 3) := by decide +kernel
theorem d_DeltaRows_leastDifference_48 : decode b_DeltaRows_leastDifference 48 = .ok (.lload 4, 2) := by decide +kernel
theorem d_DeltaRows_leastDifference_50 : decode b_DeltaRows_leastDifference 50 = .ok (.aload_n 0, 1) := by decide +kernel
theorem d_DeltaRows_leastDifference_51 : decode b_DeltaRows_leastDifference 51 = .ok (.getfield 9, 3) := by decide +kernel
theorem d_DeltaRows_leastDifference_54 : decode b_DeltaRows_leastDifference 54 = .ok (.iload 6, 2) := by decide +kernel
theorem d_DeltaRows_leastDifference_56 : decode b_DeltaRows_leastDifference 56 = .ok (.laload, 1) := by decide +kernel
theorem d_DeltaRows_leastDifference_57 : decode b_DeltaRows_leastDifference 57 = .ok (.aload_n 0, 1) := by decide +kernel
theorem d_DeltaRows_leastDifference_58 : decode b_DeltaRows_leastDifference 58 = .ok (.getfield 9, 3) := by decide +kernel
theorem d_DeltaRows_leastDifference_61 : decode b_DeltaRows_leastDifference 61 = .ok (.iload 6, 2) := by decide +kernel
theorem d_DeltaRows_leastDifference_63 : decode b_DeltaRows_leastDifference 63 = .ok (.iconst 1, 1) := by decide +kernel
theorem d_DeltaRows_leastDifference_64 : decode b_DeltaRows_leastDifference 64 = .ok (.isub, 1) := by decide +kernel
theorem d_DeltaRows_leastDifference_65 : decode b_DeltaRows_leastDifference 65 = .ok (.laload, 1) := by decide +kernel
theorem d_DeltaRows_leastDifference_66 : decode b_DeltaRows_leastDifference 66 = .ok (.lsub, 1) := by decide +kernel
theorem d_DeltaRows_leastDifference_67 : decode b_DeltaRows_leastDifference 67 = .ok (.invokestatic 127, 3) := by decide +kernel
theorem d_DeltaRows_leastDifference_70 : decode b_DeltaRows_leastDifference 70 = .ok (.lstore 4, 2) := by decide +kernel
theorem d_DeltaRows_leastDifference_72 : decode b_DeltaRows_leastDifference 72 = .ok (.iinc 6 1, 3) := by decide +kernel
theorem d_DeltaRows_leastDifference_75 : decode b_DeltaRows_leastDifference 75 = .ok (.goto (-33), 3) := by decide +kernel
theorem d_DeltaRows_leastDifference_78 : decode b_DeltaRows_leastDifference 78 = .ok (.lload 4, 2) := by decide +kernel
theorem d_DeltaRows_leastDifference_80 : decode b_DeltaRows_leastDifference 80 = .ok (.lreturn, 1) := by decide +kernel
theorem d_DeltaRows_neededWidth_0 : decode b_DeltaRows_neededWidth 0 = .ok (.aload_n 0, 1) := by decide +kernel
theorem d_DeltaRows_neededWidth_1 : decode b_DeltaRows_neededWidth 1 = .ok (.getfield 36, 3) := by decide +kernel
theorem d_DeltaRows_neededWidth_4 : decode b_DeltaRows_neededWidth 4 = .ok (.getfield 98, 3) := by decide +kernel
theorem d_DeltaRows_neededWidth_7 : decode b_DeltaRows_neededWidth 7 = .ok (.iload_n 1, 1) := by decide +kernel
theorem d_DeltaRows_neededWidth_8 : decode b_DeltaRows_neededWidth 8 = .ok (.laload, 1) := by decide +kernel
theorem d_DeltaRows_neededWidth_9 : decode b_DeltaRows_neededWidth 9 = .ok (.lstore_n 3, 1) := by decide +kernel
theorem d_DeltaRows_neededWidth_10 : decode b_DeltaRows_neededWidth 10 = .ok (.iload_n 1, 1) := by decide +kernel
theorem d_DeltaRows_neededWidth_11 : decode b_DeltaRows_neededWidth 11 = .ok (.iload_n 2, 1) := by decide +kernel
theorem d_DeltaRows_neededWidth_12 : decode b_DeltaRows_neededWidth 12 = .ok (.iconst 1, 1) := by decide +kernel
theorem d_DeltaRows_neededWidth_13 : decode b_DeltaRows_neededWidth 13 = .ok (.iadd, 1) := by decide +kernel
theorem d_DeltaRows_neededWidth_14 : decode b_DeltaRows_neededWidth 14 = .ok (.aload_n 0, 1) := by decide +kernel
theorem d_DeltaRows_neededWidth_15 : decode b_DeltaRows_neededWidth 15 = .ok (.getfield 13, 3) := by decide +kernel
theorem d_DeltaRows_neededWidth_18 : decode b_DeltaRows_neededWidth 18 = .ok (.invokestatic 123, 3) := by decide +kernel
theorem d_DeltaRows_neededWidth_21 : decode b_DeltaRows_neededWidth 21 = .ok (.istore 5, 2) := by decide +kernel
theorem d_DeltaRows_neededWidth_23 : decode b_DeltaRows_neededWidth 23 = .ok (.lconst 0, 1) := by decide +kernel
theorem d_DeltaRows_neededWidth_24 : decode b_DeltaRows_neededWidth 24 = .ok (.lstore 6, 2) := by decide +kernel
theorem d_DeltaRows_neededWidth_26 : decode b_DeltaRows_neededWidth 26 = .ok (.iload_n 1, 1) := by decide +kernel
theorem d_DeltaRows_neededWidth_27 : decode b_DeltaRows_neededWidth 27 = .ok (.iload_n 2, 1) := by decide +kernel
theorem d_DeltaRows_neededWidth_28 : decode b_DeltaRows_neededWidth 28 = .ok (.aload_n 0, 1) := by decide +kernel
theorem d_DeltaRows_neededWidth_29 : decode b_DeltaRows_neededWidth 29 = .ok (.getfield 13, 3) := by decide +kernel
theorem d_DeltaRows_neededWidth_32 : decode b_DeltaRows_neededWidth 32 = .ok (.invokestatic 123, 3) := by decide +kernel
theorem d_DeltaRows_neededWidth_35 : decode b_DeltaRows_neededWidth 35 = .ok (.istore 8, 2) := by decide +kernel
theorem d_DeltaRows_neededWidth_37 : decode b_DeltaRows_neededWidth 37 = .ok (.iload 8, 2) := by decide +kernel
theorem d_DeltaRows_neededWidth_39 : decode b_DeltaRows_neededWidth 39 = .ok (.iload 5, 2) := by decide +kernel
theorem d_DeltaRows_neededWidth_41 : decode b_DeltaRows_neededWidth 41 = .ok (.if_icmp .ge 33, 3) := by decide +kernel
theorem d_DeltaRows_neededWidth_44 : decode b_DeltaRows_neededWidth 44 = .ok (.lload 6, 2) := by decide +kernel
theorem d_DeltaRows_neededWidth_46 : decode b_DeltaRows_neededWidth 46 = .ok (.aload_n 0, 1) := by decide +kernel
theorem d_DeltaRows_neededWidth_47 : decode b_DeltaRows_neededWidth 47 = .ok (.getfield 9, 3) := by decide +kernel
theorem d_DeltaRows_neededWidth_50 : decode b_DeltaRows_neededWidth 50 = .ok (.iload 8, 2) := by decide +kernel
theorem d_DeltaRows_neededWidth_52 : decode b_DeltaRows_neededWidth 52 = .ok (.laload, 1) := by decide +kernel
theorem d_DeltaRows_neededWidth_53 : decode b_DeltaRows_neededWidth 53 = .ok (.aload_n 0, 1) := by decide +kernel
theorem d_DeltaRows_neededWidth_54 : decode b_DeltaRows_neededWidth 54 = .ok (.getfield 9, 3) := by decide +kernel
theorem d_DeltaRows_neededWidth_57 : decode b_DeltaRows_neededWidth 57 = .ok (.iload 8, 2) := by decide +kernel
theorem d_DeltaRows_neededWidth_59 : decode b_DeltaRows_neededWidth 59 = .ok (.iconst 1, 1) := by decide +kernel
theorem d_DeltaRows_neededWidth_60 : decode b_DeltaRows_neededWidth 60 = .ok (.isub, 1) := by decide +kernel
theorem d_DeltaRows_neededWidth_61 : decode b_DeltaRows_neededWidth 61 = .ok (.laload, 1) := by decide +kernel
theorem d_DeltaRows_neededWidth_62 : decode b_DeltaRows_neededWidth 62 = .ok (.lsub, 1) := by decide +kernel
theorem d_DeltaRows_neededWidth_63 : decode b_DeltaRows_neededWidth 63 = .ok (.lload_n 3, 1) := by decide +kernel
theorem d_DeltaRows_neededWidth_64 : decode b_DeltaRows_neededWidth 64 = .ok (.lsub, 1) := by decide +kernel
theorem d_DeltaRows_neededWidth_65 : decode b_DeltaRows_neededWidth 65 = .ok (.lor, 1) := by decide +kernel
theorem d_DeltaRows_neededWidth_66 : decode b_DeltaRows_neededWidth 66 = .ok (.lstore 6, 2) := by decide +kernel
theorem d_DeltaRows_neededWidth_68 : decode b_DeltaRows_neededWidth 68 = .ok (.iinc 8 1, 3) := by decide +kernel
theorem d_DeltaRows_neededWidth_71 : decode b_DeltaRows_neededWidth 71 = .ok (.goto (-34), 3) := by decide +kernel
theorem d_DeltaRows_neededWidth_74 : decode b_DeltaRows_neededWidth 74 = .ok (.bipush 64, 2) := by decide +kernel
theorem d_DeltaRows_neededWidth_76 : decode b_DeltaRows_neededWidth 76 = .ok (.lload 6, 2) := by decide +kernel
theorem d_DeltaRows_neededWidth_78 : decode b_DeltaRows_neededWidth 78 = .ok (.invokestatic 133, 3) := by decide +kernel
theorem d_DeltaRows_neededWidth_81 : decode b_DeltaRows_neededWidth 81 = .ok (.isub, 1) := by decide +kernel
theorem d_DeltaRows_neededWidth_82 : decode b_DeltaRows_neededWidth 82 = .ok (.ireturn, 1) := by decide +kernel
theorem d_DeltaRows_writePart_0 : decode b_DeltaRows_writePart 0 = .ok (.aload_n 0, 1) := by decide +kernel
theorem d_DeltaRows_writePart_1 : decode b_DeltaRows_writePart 1 = .ok (.getfield 36, 3) := by decide +kernel
theorem d_DeltaRows_writePart_4 : decode b_DeltaRows_writePart 4 = .ok (.getfield 98, 3) := by decide +kernel
theorem d_DeltaRows_writePart_7 : decode b_DeltaRows_writePart 7 = .ok (.iload_n 1, 1) := by decide +kernel
theorem d_DeltaRows_writePart_8 : decode b_DeltaRows_writePart 8 = .ok (.laload, 1) := by decide +kernel
theorem d_DeltaRows_writePart_9 : decode b_DeltaRows_writePart 9 = .ok (.lstore_n 3, 1) := by decide +kernel
theorem d_DeltaRows_writePart_10 : decode b_DeltaRows_writePart 10 = .ok (.aload_n 0, 1) := by decide +kernel
theorem d_DeltaRows_writePart_11 : decode b_DeltaRows_writePart 11 = .ok (.getfield 36, 3) := by decide +kernel
theorem d_DeltaRows_writePart_14 : decode b_DeltaRows_writePart 14 = .ok (.getfield 105, 3) := by decide +kernel
theorem d_DeltaRows_writePart_17 : decode b_DeltaRows_writePart 17 = .ok (.iload_n 1, 1) := by decide +kernel
theorem d_DeltaRows_writePart_18 : decode b_DeltaRows_writePart 18 = .ok (.iconst 4, 1) := by decide +kernel
theorem d_DeltaRows_writePart_19 : decode b_DeltaRows_writePart 19 = .ok (.imul, 1) := by decide +kernel
theorem d_DeltaRows_writePart_20 : decode b_DeltaRows_writePart 20 = .ok (.iload_n 2, 1) := by decide +kernel
theorem d_DeltaRows_writePart_21 : decode b_DeltaRows_writePart 21 = .ok (.iadd, 1) := by decide +kernel
theorem d_DeltaRows_writePart_22 : decode b_DeltaRows_writePart 22 = .ok (.iaload, 1) := by decide +kernel
theorem d_DeltaRows_writePart_23 : decode b_DeltaRows_writePart 23 = .ok (.istore 5, 2) := by decide +kernel
theorem d_DeltaRows_writePart_25 : decode b_DeltaRows_writePart 25 = .ok (.iload_n 1, 1) := by decide +kernel
theorem d_DeltaRows_writePart_26 : decode b_DeltaRows_writePart 26 = .ok (.iload_n 2, 1) := by decide +kernel
theorem d_DeltaRows_writePart_27 : decode b_DeltaRows_writePart 27 = .ok (.aload_n 0, 1) := by decide +kernel
theorem d_DeltaRows_writePart_28 : decode b_DeltaRows_writePart 28 = .ok (.getfield 13, 3) := by decide +kernel
theorem d_DeltaRows_writePart_31 : decode b_DeltaRows_writePart 31 = .ok (.invokestatic 123, 3) := by decide +kernel
theorem d_DeltaRows_writePart_34 : decode b_DeltaRows_writePart 34 = .ok (.istore 6, 2) := by decide +kernel
theorem d_DeltaRows_writePart_36 : decode b_DeltaRows_writePart 36 = .ok (.iload_n 1, 1) := by decide +kernel
theorem d_DeltaRows_writePart_37 : decode b_DeltaRows_writePart 37 = .ok (.iload_n 2, 1) := by decide +kernel
theorem d_DeltaRows_writePart_38 : decode b_DeltaRows_writePart 38 = .ok (.iconst 1, 1) := by decide +kernel
theorem d_DeltaRows_writePart_39 : decode b_DeltaRows_writePart 39 = .ok (.iadd, 1) := by decide +kernel
theorem d_DeltaRows_writePart_40 : decode b_DeltaRows_writePart 40 = .ok (.aload_n 0, 1) := by decide +kernel
theorem d_DeltaRows_writePart_41 : decode b_DeltaRows_writePart 41 = .ok (.getfield 13, 3) := by decide +kernel
theorem d_DeltaRows_writePart_44 : decode b_DeltaRows_writePart 44 = .ok (.invokestatic 123, 3) := by decide +kernel
theorem d_DeltaRows_writePart_47 : decode b_DeltaRows_writePart 47 = .ok (.istore 7, 2) := by decide +kernel
theorem d_DeltaRows_writePart_49 : decode b_DeltaRows_writePart 49 = .ok (.aload_n 0, 1) := by decide +kernel
theorem d_DeltaRows_writePart_50 : decode b_DeltaRows_writePart 50 = .ok (.getfield 20, 3) := by decide +kernel
theorem d_DeltaRows_writePart_53 : decode b_DeltaRows_writePart 53 = .ok (.getfield 65, 3) := by decide +kernel
theorem d_DeltaRows_writePart_56 : decode b_DeltaRows_writePart 56 = .ok (.bipush 8, 2) := by decide +kernel
theorem d_DeltaRows_writePart_58 : decode b_DeltaRows_writePart 58 = .ok (.imul, 1) := by decide +kernel
theorem d_DeltaRows_writePart_59 : decode b_DeltaRows_writePart 59 = .ok (.istore 8, 2) := by decide +kernel
theorem d_DeltaRows_writePart_61 : decode b_DeltaRows_writePart 61 = .ok (.iload 6, 2) := by decide +kernel
theorem d_DeltaRows_writePart_63 : decode b_DeltaRows_writePart 63 = .ok (.istore 9, 2) := by decide +kernel
theorem d_DeltaRows_writePart_65 : decode b_DeltaRows_writePart 65 = .ok (.iload 9, 2) := by decide +kernel
theorem d_DeltaRows_writePart_67 : decode b_DeltaRows_writePart 67 = .ok (.iload 6, 2) := by decide +kernel
theorem d_DeltaRows_writePart_69 : decode b_DeltaRows_writePart 69 = .ok (.bipush 16, 2) := by decide +kernel
theorem d_DeltaRows_writePart_71 : decode b_DeltaRows_writePart 71 = .ok (.iadd, 1) := by decide +kernel
theorem d_DeltaRows_writePart_72 : decode b_DeltaRows_writePart 72 = .ok (.if_icmp .ge 57, 3) := by decide +kernel
theorem d_DeltaRows_writePart_75 : decode b_DeltaRows_writePart 75 = .ok (.aload_n 0, 1) := by decide +kernel
theorem d_DeltaRows_writePart_76 : decode b_DeltaRows_writePart 76 = .ok (.getfield 20, 3) := by decide +kernel
theorem d_DeltaRows_writePart_79 : decode b_DeltaRows_writePart 79 = .ok (.iload 8, 2) := by decide +kernel
theorem d_DeltaRows_writePart_81 : decode b_DeltaRows_writePart 81 = .ok (.iload 5, 2) := by decide +kernel
theorem d_DeltaRows_writePart_83 : decode b_DeltaRows_writePart 83 = .ok (.iload 9, 2) := by decide +kernel
theorem d_DeltaRows_writePart_85 : decode b_DeltaRows_writePart 85 = .ok (.iload 7, 2) := by decide +kernel
theorem d_DeltaRows_writePart_87 : decode b_DeltaRows_writePart 87 = .ok (.if_icmp .ge 25, 3) := by decide +kernel
theorem d_DeltaRows_writePart_90 : decode b_DeltaRows_writePart 90 = .ok (.aload_n 0, 1) := by decide +kernel
theorem d_DeltaRows_writePart_91 : decode b_DeltaRows_writePart 91 = .ok (.getfield 9, 3) := by decide +kernel
theorem d_DeltaRows_writePart_94 : decode b_DeltaRows_writePart 94 = .ok (.iload 9, 2) := by decide +kernel
theorem d_DeltaRows_writePart_96 : decode b_DeltaRows_writePart 96 = .ok (.laload, 1) := by decide +kernel
theorem d_DeltaRows_writePart_97 : decode b_DeltaRows_writePart 97 = .ok (.aload_n 0, 1) := by decide +kernel
theorem d_DeltaRows_writePart_98 : decode b_DeltaRows_writePart 98 = .ok (.getfield 9, 3) := by decide +kernel
theorem d_DeltaRows_writePart_101 : decode b_DeltaRows_writePart 101 = .ok (.iload 9, 2) := by decide +kernel
theorem d_DeltaRows_writePart_103 : decode b_DeltaRows_writePart 103 = .ok (.iconst 1, 1) := by decide +kernel
theorem d_DeltaRows_writePart_104 : decode b_DeltaRows_writePart 104 = .ok (.isub, 1) := by decide +kernel
theorem d_DeltaRows_writePart_105 : decode b_DeltaRows_writePart 105 = .ok (.laload, 1) := by decide +kernel
theorem d_DeltaRows_writePart_106 : decode b_DeltaRows_writePart 106 = .ok (.lsub, 1) := by decide +kernel
theorem d_DeltaRows_writePart_107 : decode b_DeltaRows_writePart 107 = .ok (.lload_n 3, 1) := by decide +kernel
theorem d_DeltaRows_writePart_108 : decode b_DeltaRows_writePart 108 = .ok (.lsub, 1) := by decide +kernel
theorem d_DeltaRows_writePart_109 : decode b_DeltaRows_writePart 109 = .ok (.goto 4, 3) := by decide +kernel
theorem d_DeltaRows_writePart_112 : decode b_DeltaRows_writePart 112 = .ok (.lconst 0, 1) := by decide +kernel
theorem d_DeltaRows_writePart_113 : decode b_DeltaRows_writePart 113 = .ok (.invokevirtual 139, 3) := by decide +kernel
theorem d_DeltaRows_writePart_116 : decode b_DeltaRows_writePart 116 = .ok (.iload 8, 2) := by decide +kernel
theorem d_DeltaRows_writePart_118 : decode b_DeltaRows_writePart 118 = .ok (.iload 5, 2) := by decide +kernel
theorem d_DeltaRows_writePart_120 : decode b_DeltaRows_writePart 120 = .ok (.iadd, 1) := by decide +kernel
theorem d_DeltaRows_writePart_121 : decode b_DeltaRows_writePart 121 = .ok (.istore 8, 2) := by decide +kernel
theorem d_DeltaRows_writePart_123 : decode b_DeltaRows_writePart 123 = .ok (.iinc 9 1, 3) := by decide +kernel
theorem d_DeltaRows_writePart_126 : decode b_DeltaRows_writePart 126 = .ok (.goto (-61), 3) := by decide +kernel
theorem d_DeltaRows_writePart_129 : decode b_DeltaRows_writePart 129 = .ok (.aload_n 0, 1) := by decide +kernel
theorem d_DeltaRows_writePart_130 : decode b_DeltaRows_writePart 130 = .ok (.getfield 20, 3) := by decide +kernel
theorem d_DeltaRows_writePart_133 : decode b_DeltaRows_writePart 133 = .ok (.dup, 1) := by decide +kernel
theorem d_DeltaRows_writePart_134 : decode b_DeltaRows_writePart 134 = .ok (.getfield 65, 3) := by decide +kernel
theorem d_DeltaRows_writePart_137 : decode b_DeltaRows_writePart 137 = .ok (.iload 5, 2) := by decide +kernel
theorem d_DeltaRows_writePart_139 : decode b_DeltaRows_writePart 139 = .ok (.invokestatic 143, 3) := by decide +kernel
theorem d_DeltaRows_writePart_142 : decode b_DeltaRows_writePart 142 = .ok (.iadd, 1) := by decide +kernel
theorem d_DeltaRows_writePart_143 : decode b_DeltaRows_writePart 143 = .ok (.putfield 65, 3) := by decide +kernel
theorem d_DeltaRows_writePart_146 : decode b_DeltaRows_writePart 146 = .ok (.return_, 1) := by decide +kernel
theorem d_DeltaRows_takeRow_0 : decode b_DeltaRows_takeRow 0 = .ok (.aload_n 0, 1) := by decide +kernel
theorem d_DeltaRows_takeRow_1 : decode b_DeltaRows_takeRow 1 = .ok (.aload_n 0, 1) := by decide +kernel
theorem d_DeltaRows_takeRow_2 : decode b_DeltaRows_takeRow 2 = .ok (.getfield 29, 3) := by decide +kernel
theorem d_DeltaRows_takeRow_5 : decode b_DeltaRows_takeRow 5 = .ok (.getfield 146, 3) := by decide +kernel
theorem d_DeltaRows_takeRow_8 : decode b_DeltaRows_takeRow 8 = .ok (.putfield 13, 3) := by decide +kernel
theorem d_DeltaRows_takeRow_11 : decode b_DeltaRows_takeRow 11 = .ok (.aload_n 0, 1) := by decide +kernel
theorem d_DeltaRows_takeRow_12 : decode b_DeltaRows_takeRow 12 = .ok (.getfield 13, 3) := by decide +kernel
theorem d_DeltaRows_takeRow_15 : decode b_DeltaRows_takeRow 15 = .ok (.ifCond .le 16, 3) := by decide +kernel
theorem d_DeltaRows_takeRow_18 : decode b_DeltaRows_takeRow 18 = .ok (.aload_n 0, 1) := by decide +kernel
end
section
theorem d_DeltaRows_takeRow_19 : decode b_DeltaRows_takeRow 19 = .ok (.getfield 9, 3) := by decide +kernel
theorem d_DeltaRows_takeRow_22 : decode b_DeltaRows_takeRow 22 = .ok (.iconst 0, 1) := by decide +kernel
theorem d_DeltaRows_takeRow_23 : decode b_DeltaRows_takeRow 23 = .ok (.aload_n 0, 1) := by decide +kernel
theorem d_DeltaRows_takeRow_24 : decode b_DeltaRows_takeRow 24 = .ok (.getfield 29, 3) := by decide +kernel
theorem d_DeltaRows_takeRow_27 : decode b_DeltaRows_takeRow 27 = .ok (.getfield 149, 3) := by decide +kernel
theorem d_DeltaRows_takeRow_30 : decode b_DeltaRows_takeRow 30 = .ok (.lastore, 1) := by decide +kernel
theorem d_DeltaRows_takeRow_31 : decode b_DeltaRows_takeRow 31 = .ok (.iconst 0, 1) := by decide +kernel
theorem d_DeltaRows_takeRow_32 : decode b_DeltaRows_takeRow 32 = .ok (.istore_n 1, 1) := by decide +kernel
theorem d_DeltaRows_takeRow_33 : decode b_DeltaRows_takeRow 33 = .ok (.iload_n 1, 1) := by decide +kernel
theorem d_DeltaRows_takeRow_34 : decode b_DeltaRows_takeRow 34 = .ok (.aload_n 0, 1) := by decide +kernel
theorem d_DeltaRows_takeRow_35 : decode b_DeltaRows_takeRow 35 = .ok (.getfield 36, 3) := by decide +kernel
theorem d_DeltaRows_takeRow_38 : decode b_DeltaRows_takeRow 38 = .ok (.getfield 59, 3) := by decide +kernel
theorem d_DeltaRows_takeRow_41 : decode b_DeltaRows_takeRow 41 = .ok (.if_icmp .ge 28, 3) := by decide +kernel
theorem d_DeltaRows_takeRow_44 : decode b_DeltaRows_takeRow 44 = .ok (.iconst 0, 1) := by decide +kernel
theorem d_DeltaRows_takeRow_45 : decode b_DeltaRows_takeRow 45 = .ok (.istore_n 2, 1) := by decide +kernel
theorem d_DeltaRows_takeRow_46 : decode b_DeltaRows_takeRow 46 = .ok (.iload_n 2, 1) := by decide +kernel
theorem d_DeltaRows_takeRow_47 : decode b_DeltaRows_takeRow 47 = .ok (.iconst 4, 1) := by decide +kernel
theorem d_DeltaRows_takeRow_48 : decode b_DeltaRows_takeRow 48 = .ok (.if_icmp .ge 15, 3) := by decide +kernel
theorem d_DeltaRows_takeRow_51 : decode b_DeltaRows_takeRow 51 = .ok (.aload_n 0, 1) := by decide +kernel
theorem d_DeltaRows_takeRow_52 : decode b_DeltaRows_takeRow 52 = .ok (.iload_n 1, 1) := by decide +kernel
theorem d_DeltaRows_takeRow_53 : decode b_DeltaRows_takeRow 53 = .ok (.iload_n 2, 1) := by decide +kernel
theorem d_DeltaRows_takeRow_54 : decode b_DeltaRows_takeRow 54 = .ok (.invokevirtual 153, 3) := by decide +kernel
theorem d_DeltaRows_takeRow_57 : decode b_DeltaRows_takeRow 57 = .ok (.iinc 2 1, 3) := by decide +kernel
theorem d_DeltaRows_takeRow_60 : decode b_DeltaRows_takeRow 60 = .ok (.goto (-14), 3) := by decide +kernel
theorem d_DeltaRows_takeRow_63 : decode b_DeltaRows_takeRow 63 = .ok (.iinc 1 1, 3) := by decide +kernel
theorem d_DeltaRows_takeRow_66 : decode b_DeltaRows_takeRow 66 = .ok (.goto (-33), 3) := by decide +kernel
theorem d_DeltaRows_takeRow_69 : decode b_DeltaRows_takeRow 69 = .ok (.return_, 1) := by decide +kernel
theorem d_DeltaRows_takePart_0 : decode b_DeltaRows_takePart 0 = .ok (.aload_n 0, 1) := by decide +kernel
theorem d_DeltaRows_takePart_1 : decode b_DeltaRows_takePart 1 = .ok (.getfield 36, 3) := by decide +kernel
theorem d_DeltaRows_takePart_4 : decode b_DeltaRows_takePart 4 = .ok (.getfield 98, 3) := by decide +kernel
theorem d_DeltaRows_takePart_7 : decode b_DeltaRows_takePart 7 = .ok (.iload_n 1, 1) := by decide +kernel
theorem d_DeltaRows_takePart_8 : decode b_DeltaRows_takePart 8 = .ok (.laload, 1) := by decide +kernel
theorem d_DeltaRows_takePart_9 : decode b_DeltaRows_takePart 9 = .ok (.lstore_n 3, 1) := by decide +kernel
theorem d_DeltaRows_takePart_10 : decode b_DeltaRows_takePart 10 = .ok (.aload_n 0, 1) := by decide +kernel
theorem d_DeltaRows_takePart_11 : decode b_DeltaRows_takePart 11 = .ok (.getfield 36, 3) := by decide +kernel
theorem d_DeltaRows_takePart_14 : decode b_DeltaRows_takePart 14 = .ok (.getfield 105, 3) := by decide +kernel
theorem d_DeltaRows_takePart_17 : decode b_DeltaRows_takePart 17 = .ok (.iload_n 1, 1) := by decide +kernel
theorem d_DeltaRows_takePart_18 : decode b_DeltaRows_takePart 18 = .ok (.iconst 4, 1) := by decide +kernel
theorem d_DeltaRows_takePart_19 : decode b_DeltaRows_takePart 19 = .ok (.imul, 1) := by decide +kernel
theorem d_DeltaRows_takePart_20 : decode b_DeltaRows_takePart 20 = .ok (.iload_n 2, 1) := by decide +kernel
theorem d_DeltaRows_takePart_21 : decode b_DeltaRows_takePart 21 = .ok (.iadd, 1) := by decide +kernel
theorem d_DeltaRows_takePart_22 : decode b_DeltaRows_takePart 22 = .ok (.iaload, 1) := by decide +kernel
theorem d_DeltaRows_takePart_23 : decode b_DeltaRows_takePart 23 = .ok (.istore 5, 2) := by decide +kernel
theorem d_DeltaRows_takePart_25 : decode b_DeltaRows_takePart 25 = .ok (.aload_n 0, 1) := by decide +kernel
theorem d_DeltaRows_takePart_26 : decode b_DeltaRows_takePart 26 = .ok (.getfield 36, 3) := by decide +kernel
theorem d_DeltaRows_takePart_29 : decode b_DeltaRows_takePart 29 = .ok (.getfield 109, 3) := by decide +kernel
theorem d_DeltaRows_takePart_32 : decode b_DeltaRows_takePart 32 = .ok (.iload_n 1, 1) := by decide +kernel
theorem d_DeltaRows_takePart_33 : decode b_DeltaRows_takePart 33 = .ok (.iconst 4, 1) := by decide +kernel
theorem d_DeltaRows_takePart_34 : decode b_DeltaRows_takePart 34 = .ok (.imul, 1) := by decide +kernel
theorem d_DeltaRows_takePart_35 : decode b_DeltaRows_takePart 35 = .ok (.iload_n 2, 1) := by decide +kernel
theorem d_DeltaRows_takePart_36 : decode b_DeltaRows_takePart 36 = .ok (.iadd, 1) := by decide +kernel
theorem d_DeltaRows_takePart_37 : decode b_DeltaRows_takePart 37 = .ok (.iaload, 1) := by decide +kernel
theorem d_DeltaRows_takePart_38 : decode b_DeltaRows_takePart 38 = .ok (.bipush 8, 2) := by decide +kernel
theorem d_DeltaRows_takePart_40 : decode b_DeltaRows_takePart 40 = .ok (.imul, 1) := by decide +kernel
theorem d_DeltaRows_takePart_41 : decode b_DeltaRows_takePart 41 = .ok (.istore 6, 2) := by decide +kernel
theorem d_DeltaRows_takePart_43 : decode b_DeltaRows_takePart 43 = .ok (.iload_n 1, 1) := by decide +kernel
theorem d_DeltaRows_takePart_44 : decode b_DeltaRows_takePart 44 = .ok (.iload_n 2, 1) := by decide +kernel
theorem d_DeltaRows_takePart_45 : decode b_DeltaRows_takePart 45 = .ok (.iconst 1, 1) := by decide +kernel
theorem d_DeltaRows_takePart_46 : decode b_DeltaRows_takePart 46 = .ok (.iadd, 1) := by decide +kernel
theorem d_DeltaRows_takePart_47 : decode b_DeltaRows_takePart 47 = .ok (.aload_n 0, 1) := by decide +kernel
theorem d_DeltaRows_takePart_48 : decode b_DeltaRows_takePart 48 = .ok (.getfield 13, 3) := by decide +kernel
theorem d_DeltaRows_takePart_51 : decode b_DeltaRows_takePart 51 = .ok (.invokestatic 123, 3) := by decide +kernel
theorem d_DeltaRows_takePart_54 : decode b_DeltaRows_takePart 54 = .ok (.istore 7, 2) := by decide +kernel
theorem d_DeltaRows_takePart_56 : decode b_DeltaRows_takePart 56 = .ok (.iload_n 1, 1) := by decide +kernel
theorem d_DeltaRows_takePart_57 : decode b_DeltaRows_takePart 57 = .ok (.iload_n 2, 1) := by decide +kernel
theorem d_DeltaRows_takePart_58 : decode b_DeltaRows_takePart 58 = .ok (.aload_n 0, 1) := by decide +kernel
theorem d_DeltaRows_takePart_59 : decode b_DeltaRows_takePart 59 = .ok (.getfield 13, 3) := by decide +kernel
theorem d_DeltaRows_takePart_62 : decode b_DeltaRows_takePart 62 = .ok (.invokestatic 123, 3) := by decide +kernel
theorem d_DeltaRows_takePart_65 : decode b_DeltaRows_takePart 65 = .ok (.istore 8, 2) := by decide +kernel
theorem d_DeltaRows_takePart_67 : decode b_DeltaRows_takePart 67 = .ok (.iload 8, 2) := by decide +kernel
theorem d_DeltaRows_takePart_69 : decode b_DeltaRows_takePart 69 = .ok (.iload 7, 2) := by decide +kernel
theorem d_DeltaRows_takePart_71 : decode b_DeltaRows_takePart 71 = .ok (.if_icmp .ge 46, 3) := by decide +kernel
theorem d_DeltaRows_takePart_74 : decode b_DeltaRows_takePart 74 = .ok (.aload_n 0, 1) := by decide +kernel
theorem d_DeltaRows_takePart_75 : decode b_DeltaRows_takePart 75 = .ok (.getfield 9, 3) := by decide +kernel
theorem d_DeltaRows_takePart_78 : decode b_DeltaRows_takePart 78 = .ok (.iload 8, 2) := by decide +kernel
theorem d_DeltaRows_takePart_80 : decode b_DeltaRows_takePart 80 = .ok (.aload_n 0, 1) := by decide +kernel
theorem d_DeltaRows_takePart_81 : decode b_DeltaRows_takePart 81 = .ok (.getfield 9, 3) := by decide +kernel
theorem d_DeltaRows_takePart_84 : decode b_DeltaRows_takePart 84 = .ok (.iload 8, 2) := by decide +kernel
theorem d_DeltaRows_takePart_86 : decode b_DeltaRows_takePart 86 = .ok (.iconst 1, 1) := by decide +kernel
theorem d_DeltaRows_takePart_87 : decode b_DeltaRows_takePart 87 = .ok (.isub, 1) := by decide +kernel
theorem d_DeltaRows_takePart_88 : decode b_DeltaRows_takePart 88 = .ok (.laload, 1) := by decide +kernel
theorem d_DeltaRows_takePart_89 : decode b_DeltaRows_takePart 89 = .ok (.lload_n 3, 1) := by decide +kernel
theorem d_DeltaRows_takePart_90 : decode b_DeltaRows_takePart 90 = .ok (.ladd, 1) := by decide +kernel
theorem d_DeltaRows_takePart_91 : decode b_DeltaRows_takePart 91 = .ok (.aload_n 0, 1) := by decide +kernel
theorem d_DeltaRows_takePart_92 : decode b_DeltaRows_takePart 92 = .ok (.getfield 20, 3) := by decide +kernel
theorem d_DeltaRows_takePart_95 : decode b_DeltaRows_takePart 95 = .ok (.iload 6, 2) := by decide +kernel
theorem d_DeltaRows_takePart_97 : decode b_DeltaRows_takePart 97 = .ok (.iload 5, 2) := by decide +kernel
theorem d_DeltaRows_takePart_99 : decode b_DeltaRows_takePart 99 = .ok (.invokevirtual 156, 3) := by decide +kernel
theorem d_DeltaRows_takePart_102 : decode b_DeltaRows_takePart 102 = .ok (.ladd, 1) := by decide +kernel
theorem d_DeltaRows_takePart_103 : decode b_DeltaRows_takePart 103 = .ok (.lastore, 1) := by decide +kernel
theorem d_DeltaRows_takePart_104 : decode b_DeltaRows_takePart 104 = .ok (.iload 6, 2) := by decide +kernel
theorem d_DeltaRows_takePart_106 : decode b_DeltaRows_takePart 106 = .ok (.iload 5, 2) := by decide +kernel
theorem d_DeltaRows_takePart_108 : decode b_DeltaRows_takePart 108 = .ok (.iadd, 1) := by decide +kernel
theorem d_DeltaRows_takePart_109 : decode b_DeltaRows_takePart 109 = .ok (.istore 6, 2) := by decide +kernel
theorem d_DeltaRows_takePart_111 : decode b_DeltaRows_takePart 111 = .ok (.iinc 8 1, 3) := by decide +kernel
theorem d_DeltaRows_takePart_114 : decode b_DeltaRows_takePart 114 = .ok (.goto (-47), 3) := by decide +kernel
theorem d_DeltaRows_takePart_117 : decode b_DeltaRows_takePart 117 = .ok (.return_, 1) := by decide +kernel
theorem d_DeltaRows_blocksFor_0 : decode b_DeltaRows_blocksFor 0 = .ok (.iload_n 0, 1) := by decide +kernel
theorem d_DeltaRows_blocksFor_1 : decode b_DeltaRows_blocksFor 1 = .ok (.iconst 1, 1) := by decide +kernel
theorem d_DeltaRows_blocksFor_2 : decode b_DeltaRows_blocksFor 2 = .ok (.if_icmp .le 17, 3) := by decide +kernel
theorem d_DeltaRows_blocksFor_5 : decode b_DeltaRows_blocksFor 5 = .ok (.iload_n 0, 1) := by decide +kernel
theorem d_DeltaRows_blocksFor_6 : decode b_DeltaRows_blocksFor 6 = .ok (.iconst 1, 1) := by decide +kernel
theorem d_DeltaRows_blocksFor_7 : decode b_DeltaRows_blocksFor 7 = .ok (.isub, 1) := by decide +kernel
theorem d_DeltaRows_blocksFor_8 : decode b_DeltaRows_blocksFor 8 = .ok (.bipush 64, 2) := by decide +kernel
theorem d_DeltaRows_blocksFor_10 : decode b_DeltaRows_blocksFor 10 = .ok (.iadd, 1) := by decide +kernel
theorem d_DeltaRows_blocksFor_11 : decode b_DeltaRows_blocksFor 11 = .ok (.iconst 1, 1) := by decide +kernel
theorem d_DeltaRows_blocksFor_12 : decode b_DeltaRows_blocksFor 12 = .ok (.isub, 1) := by decide +kernel
theorem d_DeltaRows_blocksFor_13 : decode b_DeltaRows_blocksFor 13 = .ok (.bipush 64, 2) := by decide +kernel
theorem d_DeltaRows_blocksFor_15 : decode b_DeltaRows_blocksFor 15 = .ok (.idiv, 1) := by decide +kernel
theorem d_DeltaRows_blocksFor_16 : decode b_DeltaRows_blocksFor 16 = .ok (.goto 4, 3) := by decide +kernel
theorem d_DeltaRows_blocksFor_19 : decode b_DeltaRows_blocksFor 19 = .ok (.iconst 0, 1) := by decide +kernel
theorem d_DeltaRows_blocksFor_20 : decode b_DeltaRows_blocksFor 20 = .ok (.ireturn, 1) := by decide +kernel
theorem d_DeltaRows_partEdge_0 : decode b_DeltaRows_partEdge 0 = .ok (.iconst 1, 1) := by decide +kernel
theorem d_DeltaRows_partEdge_1 : decode b_DeltaRows_partEdge 1 = .ok (.iload_n 0, 1) := by decide +kernel
theorem d_DeltaRows_partEdge_2 : decode b_DeltaRows_partEdge 2 = .ok (.bipush 64, 2) := by decide +kernel
theorem d_DeltaRows_partEdge_4 : decode b_DeltaRows_partEdge 4 = .ok (.imul, 1) := by decide +kernel
theorem d_DeltaRows_partEdge_5 : decode b_DeltaRows_partEdge 5 = .ok (.iadd, 1) := by decide +kernel
theorem d_DeltaRows_partEdge_6 : decode b_DeltaRows_partEdge 6 = .ok (.iload_n 1, 1) := by decide +kernel
theorem d_DeltaRows_partEdge_7 : decode b_DeltaRows_partEdge 7 = .ok (.bipush 16, 2) := by decide +kernel
theorem d_DeltaRows_partEdge_9 : decode b_DeltaRows_partEdge 9 = .ok (.imul, 1) := by decide +kernel
theorem d_DeltaRows_partEdge_10 : decode b_DeltaRows_partEdge 10 = .ok (.iadd, 1) := by decide +kernel
theorem d_DeltaRows_partEdge_11 : decode b_DeltaRows_partEdge 11 = .ok (.iload_n 2, 1) := by decide +kernel
theorem d_DeltaRows_partEdge_12 : decode b_DeltaRows_partEdge 12 = .ok (.invokestatic 160, 3) := by decide +kernel
theorem d_DeltaRows_partEdge_15 : decode b_DeltaRows_partEdge 15 = .ok (.ireturn, 1) := by decide +kernel
theorem d_DeltaRows_partBytes_0 : decode b_DeltaRows_partBytes 0 = .ok (.iload_n 0, 1) := by decide +kernel
theorem d_DeltaRows_partBytes_1 : decode b_DeltaRows_partBytes 1 = .ok (.bipush 16, 2) := by decide +kernel
theorem d_DeltaRows_partBytes_3 : decode b_DeltaRows_partBytes 3 = .ok (.imul, 1) := by decide +kernel
theorem d_DeltaRows_partBytes_4 : decode b_DeltaRows_partBytes 4 = .ok (.bipush 8, 2) := by decide +kernel
theorem d_DeltaRows_partBytes_6 : decode b_DeltaRows_partBytes 6 = .ok (.idiv, 1) := by decide +kernel
theorem d_DeltaRows_partBytes_7 : decode b_DeltaRows_partBytes 7 = .ok (.ireturn, 1) := by decide +kernel
theorem d_DeltaRows_zigzag_0 : decode b_DeltaRows_zigzag 0 = .ok (.lload_n 0, 1) := by decide +kernel
theorem d_DeltaRows_zigzag_1 : decode b_DeltaRows_zigzag 1 = .ok (.iconst 1, 1) := by decide +kernel
theorem d_DeltaRows_zigzag_2 : decode b_DeltaRows_zigzag 2 = .ok (.lshl, 1) := by decide +kernel
theorem d_DeltaRows_zigzag_3 : decode b_DeltaRows_zigzag 3 = .ok (.lload_n 0, 1) := by decide +kernel
theorem d_DeltaRows_zigzag_4 : decode b_DeltaRows_zigzag 4 = .ok (.bipush 63, 2) := by decide +kernel
theorem d_DeltaRows_zigzag_6 : decode b_DeltaRows_zigzag 6 = .ok (.lshr, 1) := by decide +kernel
theorem d_DeltaRows_zigzag_7 : decode b_DeltaRows_zigzag 7 = .ok (.lxor, 1) := by decide +kernel
theorem d_DeltaRows_zigzag_8 : decode b_DeltaRows_zigzag 8 = .ok (.lreturn, 1) := by decide +kernel
theorem d_DeltaRows_unzigzag_0 : decode b_DeltaRows_unzigzag 0 = .ok (.lload_n 0, 1) := by decide +kernel
theorem d_DeltaRows_unzigzag_1 : decode b_DeltaRows_unzigzag 1 = .ok (.iconst 1, 1) := by decide +kernel
theorem d_DeltaRows_unzigzag_2 : decode b_DeltaRows_unzigzag 2 = .ok (.lushr, 1) := by decide +kernel
theorem d_DeltaRows_unzigzag_3 : decode b_DeltaRows_unzigzag 3 = .ok (.lload_n 0, 1) := by decide +kernel
theorem d_DeltaRows_unzigzag_4 : decode b_DeltaRows_unzigzag 4 = .ok (.lconst 1, 1) := by decide +kernel
theorem d_DeltaRows_unzigzag_5 : decode b_DeltaRows_unzigzag 5 = .ok (.land, 1) := by decide +kernel
theorem d_DeltaRows_unzigzag_6 : decode b_DeltaRows_unzigzag 6 = .ok (.lneg, 1) := by decide +kernel
theorem d_DeltaRows_unzigzag_7 : decode b_DeltaRows_unzigzag 7 = .ok (.lxor, 1) := by decide +kernel
theorem d_DeltaRows_unzigzag_8 : decode b_DeltaRows_unzigzag 8 = .ok (.lreturn, 1) := by decide +kernel
end
section
theorem d_Integer_numberOfLeadingZeros_0 : decode b_Integer_numberOfLeadingZeros 0 = .ok (.iload_n 0, 1) := by decide +kernel
theorem d_Integer_numberOfLeadingZeros_1 : decode b_Integer_numberOfLeadingZeros 1 = .ok (.ifCond .gt 14, 3) := by decide +kernel
theorem d_Integer_numberOfLeadingZeros_4 : decode b_Integer_numberOfLeadingZeros 4 = .ok (.iload_n 0, 1) := by decide +kernel
theorem d_Integer_numberOfLeadingZeros_5 : decode b_Integer_numberOfLeadingZeros 5 = .ok (.ifCond .ne 8, 3) := by decide +kernel
theorem d_Integer_numberOfLeadingZeros_8 : decode b_Integer_numberOfLeadingZeros 8 = .ok (.bipush 32, 2) := by decide +kernel
theorem d_Integer_numberOfLeadingZeros_10 : decode b_Integer_numberOfLeadingZeros 10 = .ok (.goto 4, 3) := by decide +kernel
theorem d_Integer_numberOfLeadingZeros_13 : decode b_Integer_numberOfLeadingZeros 13 = .ok (.iconst 0, 1) := by decide +kernel
theorem d_Integer_numberOfLeadingZeros_14 : decode b_Integer_numberOfLeadingZeros 14 = .ok (.ireturn, 1) := by decide +kernel
theorem d_Integer_numberOfLeadingZeros_15 : decode b_Integer_numberOfLeadingZeros 15 = .ok (.bipush 31, 2) := by decide +kernel
theorem d_Integer_numberOfLeadingZeros_17 : decode b_Integer_numberOfLeadingZeros 17 = .ok (.istore_n 1, 1) := by decide +kernel
theorem d_Integer_numberOfLeadingZeros_18 : decode b_Integer_numberOfLeadingZeros 18 = .ok (.iload_n 0, 1) := by decide +kernel
theorem d_Integer_numberOfLeadingZeros_19 : decode b_Integer_numberOfLeadingZeros 19 = .ok (.ldc_w 264, 3) := by decide +kernel
theorem d_Integer_numberOfLeadingZeros_22 : decode b_Integer_numberOfLeadingZeros 22 = .ok (.if_icmp .lt 11, 3) := by decide +kernel
theorem d_Integer_numberOfLeadingZeros_25 : decode b_Integer_numberOfLeadingZeros 25 = .ok (.iinc 1 (-16), 3) := by decide +kernel
theorem d_Integer_numberOfLeadingZeros_28 : decode b_Integer_numberOfLeadingZeros 28 = .ok (.iload_n 0, 1) := by decide +kernel
theorem d_Integer_numberOfLeadingZeros_29 : decode b_Integer_numberOfLeadingZeros 29 = .ok (.bipush 16, 2) := by decide +kernel
theorem d_Integer_numberOfLeadingZeros_31 : decode b_Integer_numberOfLeadingZeros 31 = .ok (.iushr, 1) := by decide +kernel
theorem d_Integer_numberOfLeadingZeros_32 : decode b_Integer_numberOfLeadingZeros 32 = .ok (.istore_n 0, 1) := by decide +kernel
theorem d_Integer_numberOfLeadingZeros_33 : decode b_Integer_numberOfLeadingZeros 33 = .ok (.iload_n 0, 1) := by decide +kernel
theorem d_Integer_numberOfLeadingZeros_34 : decode b_Integer_numberOfLeadingZeros 34 = .ok (.sipush 256, 3) := by decide +kernel
theorem d_Integer_numberOfLeadingZeros_37 : decode b_Integer_numberOfLeadingZeros 37 = .ok (.if_icmp .lt 11, 3) := by decide +kernel
theorem d_Integer_numberOfLeadingZeros_40 : decode b_Integer_numberOfLeadingZeros 40 = .ok (.iinc 1 (-8), 3) := by decide +kernel
theorem d_Integer_numberOfLeadingZeros_43 : decode b_Integer_numberOfLeadingZeros 43 = .ok (.iload_n 0, 1) := by decide +kernel
theorem d_Integer_numberOfLeadingZeros_44 : decode b_Integer_numberOfLeadingZeros 44 = .ok (.bipush 8, 2) := by decide +kernel
theorem d_Integer_numberOfLeadingZeros_46 : decode b_Integer_numberOfLeadingZeros 46 = .ok (.iushr, 1) := by decide +kernel
theorem d_Integer_numberOfLeadingZeros_47 : decode b_Integer_numberOfLeadingZeros 47 = .ok (.istore_n 0, 1) := by decide +kernel
theorem d_Integer_numberOfLeadingZeros_48 : decode b_Integer_numberOfLeadingZeros 48 = .ok (.iload_n 0, 1) := by decide +kernel
theorem d_Integer_numberOfLeadingZeros_49 : decode b_Integer_numberOfLeadingZeros 49 = .ok (.bipush 16, 2) := by decide +kernel
theorem d_Integer_numberOfLeadingZeros_51 : decode b_Integer_numberOfLeadingZeros 51 = .ok (.if_icmp .lt 10, 3) := by decide +kernel
theorem d_Integer_numberOfLeadingZeros_54 : decode b_Integer_numberOfLeadingZeros 54 = .ok (.iinc 1 (-4), 3) := by decide +kernel
theorem d_Integer_numberOfLeadingZeros_57 : decode b_Integer_numberOfLeadingZeros 57 = .ok (.iload_n 0, 1) := by decide +kernel
theorem d_Integer_numberOfLeadingZeros_58 : decode b_Integer_numberOfLeadingZeros 58 = .ok (.iconst 4, 1) := by decide +kernel
theorem d_Integer_numberOfLeadingZeros_59 : decode b_Integer_numberOfLeadingZeros 59 = .ok (.iushr, 1) := by decide +kernel
theorem d_Integer_numberOfLeadingZeros_60 : decode b_Integer_numberOfLeadingZeros 60 = .ok (.istore_n 0, 1) := by decide +kernel
theorem d_Integer_numberOfLeadingZeros_61 : decode b_Integer_numberOfLeadingZeros 61 = .ok (.iload_n 0, 1) := by decide +kernel
theorem d_Integer_numberOfLeadingZeros_62 : decode b_Integer_numberOfLeadingZeros 62 = .ok (.iconst 4, 1) := by decide +kernel
theorem d_Integer_numberOfLeadingZeros_63 : decode b_Integer_numberOfLeadingZeros 63 = .ok (.if_icmp .lt 10, 3) := by decide +kernel
theorem d_Integer_numberOfLeadingZeros_66 : decode b_Integer_numberOfLeadingZeros 66 = .ok (.iinc 1 (-2), 3) := by decide +kernel
theorem d_Integer_numberOfLeadingZeros_69 : decode b_Integer_numberOfLeadingZeros 69 = .ok (.iload_n 0, 1) := by decide +kernel
theorem d_Integer_numberOfLeadingZeros_70 : decode b_Integer_numberOfLeadingZeros 70 = .ok (.iconst 2, 1) := by decide +kernel
theorem d_Integer_numberOfLeadingZeros_71 : decode b_Integer_numberOfLeadingZeros 71 = .ok (.iushr, 1) := by decide +kernel
theorem d_Integer_numberOfLeadingZeros_72 : decode b_Integer_numberOfLeadingZeros 72 = .ok (.istore_n 0, 1) := by decide +kernel
theorem d_Integer_numberOfLeadingZeros_73 : decode b_Integer_numberOfLeadingZeros 73 = .ok (.iload_n 1, 1) := by decide +kernel
theorem d_Integer_numberOfLeadingZeros_74 : decode b_Integer_numberOfLeadingZeros 74 = .ok (.iload_n 0, 1) := by decide +kernel
theorem d_Integer_numberOfLeadingZeros_75 : decode b_Integer_numberOfLeadingZeros 75 = .ok (.iconst 1, 1) := by decide +kernel
theorem d_Integer_numberOfLeadingZeros_76 : decode b_Integer_numberOfLeadingZeros 76 = .ok (.iushr, 1) := by decide +kernel
theorem d_Integer_numberOfLeadingZeros_77 : decode b_Integer_numberOfLeadingZeros 77 = .ok (.isub, 1) := by decide +kernel
theorem d_Integer_numberOfLeadingZeros_78 : decode b_Integer_numberOfLeadingZeros 78 = .ok (.ireturn, 1) := by decide +kernel
end
section
theorem d_Long_numberOfLeadingZeros_0 : decode b_Long_numberOfLeadingZeros 0 = .ok (.lload_n 0, 1) := by decide +kernel
theorem d_Long_numberOfLeadingZeros_1 : decode b_Long_numberOfLeadingZeros 1 = .ok (.bipush 32, 2) := by decide +kernel
theorem d_Long_numberOfLeadingZeros_3 : decode b_Long_numberOfLeadingZeros 3 = .ok (.lushr, 1) := by decide +kernel
theorem d_Long_numberOfLeadingZeros_4 : decode b_Long_numberOfLeadingZeros 4 = .ok (.l2i, 1) := by decide +kernel
theorem d_Long_numberOfLeadingZeros_5 : decode b_Long_numberOfLeadingZeros 5 = .ok (.istore_n 2, 1) := by decide +kernel
theorem d_Long_numberOfLeadingZeros_6 : decode b_Long_numberOfLeadingZeros 6 = .ok (.iload_n 2, 1) := by decide +kernel
theorem d_Long_numberOfLeadingZeros_7 : decode b_Long_numberOfLeadingZeros 7 = .ok (.ifCond .ne 14, 3) := by decide +kernel
theorem d_Long_numberOfLeadingZeros_10 : decode b_Long_numberOfLeadingZeros 10 = .ok (.bipush 32, 2) := by decide +kernel
theorem d_Long_numberOfLeadingZeros_12 : decode b_Long_numberOfLeadingZeros 12 = .ok (.lload_n 0, 1) := by decide +kernel
theorem d_Long_numberOfLeadingZeros_13 : decode b_Long_numberOfLeadingZeros 13 = .ok (.l2i, 1) := by decide +kernel
theorem d_Long_numberOfLeadingZeros_14 : decode b_Long_numberOfLeadingZeros 14 = .ok (.invokestatic 308, 3) := by decide +kernel
theorem d_Long_numberOfLeadingZeros_17 : decode b_Long_numberOfLeadingZeros 17 = .ok (.iadd, 1) := by decide +kernel
theorem d_Long_numberOfLeadingZeros_18 : decode b_Long_numberOfLeadingZeros 18 = .ok (.goto 7, 3) := by decide +kernel
theorem d_Long_numberOfLeadingZeros_21 : decode b_Long_numberOfLeadingZeros 21 = .ok (.iload_n 2, 1) := by decide +kernel
theorem d_Long_numberOfLeadingZeros_22 : decode b_Long_numberOfLeadingZeros 22 = .ok (.invokestatic 308, 3) := by decide +kernel
theorem d_Long_numberOfLeadingZeros_25 : decode b_Long_numberOfLeadingZeros 25 = .ok (.ireturn, 1) := by decide +kernel
end
section
theorem d_Model_init_0 : decode b_Model_init 0 = .ok (.aload_n 0, 1) := by decide +kernel
theorem d_Model_init_1 : decode b_Model_init 1 = .ok (.invokespecial 1, 3) := by decide +kernel
theorem d_Model_init_4 : decode b_Model_init 4 = .ok (.aload_n 0, 1) := by decide +kernel
theorem d_Model_init_5 : decode b_Model_init 5 = .ok (.sipush 2000, 3) := by decide +kernel
theorem d_Model_init_8 : decode b_Model_init 8 = .ok (.newarray .long, 2) := by decide +kernel
theorem d_Model_init_10 : decode b_Model_init 10 = .ok (.putfield 7, 3) := by decide +kernel
theorem d_Model_init_13 : decode b_Model_init 13 = .ok (.aload_n 0, 1) := by decide +kernel
theorem d_Model_init_14 : decode b_Model_init 14 = .ok (.sipush 2000, 3) := by decide +kernel
theorem d_Model_init_17 : decode b_Model_init 17 = .ok (.newarray .long, 2) := by decide +kernel
theorem d_Model_init_19 : decode b_Model_init 19 = .ok (.putfield 13, 3) := by decide +kernel
theorem d_Model_init_22 : decode b_Model_init 22 = .ok (.aload_n 0, 1) := by decide +kernel
theorem d_Model_init_23 : decode b_Model_init 23 = .ok (.sipush 20000, 3) := by decide +kernel
theorem d_Model_init_26 : decode b_Model_init 26 = .ok (.newarray .int, 2) := by decide +kernel
theorem d_Model_init_28 : decode b_Model_init 28 = .ok (.putfield 16, 3) := by decide +kernel
theorem d_Model_init_31 : decode b_Model_init 31 = .ok (.aload_n 0, 1) := by decide +kernel
theorem d_Model_init_32 : decode b_Model_init 32 = .ok (.iconst (-1), 1) := by decide +kernel
theorem d_Model_init_33 : decode b_Model_init 33 = .ok (.putfield 20, 3) := by decide +kernel
theorem d_Model_init_36 : decode b_Model_init 36 = .ok (.aload_n 0, 1) := by decide +kernel
theorem d_Model_init_37 : decode b_Model_init 37 = .ok (.bipush 40, 2) := by decide +kernel
theorem d_Model_init_39 : decode b_Model_init 39 = .ok (.newarray .long, 2) := by decide +kernel
theorem d_Model_init_41 : decode b_Model_init 41 = .ok (.putfield 24, 3) := by decide +kernel
theorem d_Model_init_44 : decode b_Model_init 44 = .ok (.aload_n 0, 1) := by decide +kernel
theorem d_Model_init_45 : decode b_Model_init 45 = .ok (.bipush 40, 2) := by decide +kernel
theorem d_Model_init_47 : decode b_Model_init 47 = .ok (.newarray .long, 2) := by decide +kernel
theorem d_Model_init_49 : decode b_Model_init 49 = .ok (.putfield 27, 3) := by decide +kernel
theorem d_Model_init_52 : decode b_Model_init 52 = .ok (.aload_n 0, 1) := by decide +kernel
theorem d_Model_init_53 : decode b_Model_init 53 = .ok (.sipush 160, 3) := by decide +kernel
theorem d_Model_init_56 : decode b_Model_init 56 = .ok (.newarray .int, 2) := by decide +kernel
theorem d_Model_init_58 : decode b_Model_init 58 = .ok (.putfield 30, 3) := by decide +kernel
theorem d_Model_init_61 : decode b_Model_init 61 = .ok (.aload_n 0, 1) := by decide +kernel
theorem d_Model_init_62 : decode b_Model_init 62 = .ok (.sipush 160, 3) := by decide +kernel
theorem d_Model_init_65 : decode b_Model_init 65 = .ok (.newarray .int, 2) := by decide +kernel
theorem d_Model_init_67 : decode b_Model_init 67 = .ok (.putfield 33, 3) := by decide +kernel
theorem d_Model_init_70 : decode b_Model_init 70 = .ok (.aload_n 0, 1) := by decide +kernel
theorem d_Model_init_71 : decode b_Model_init 71 = .ok (.sipush 160, 3) := by decide +kernel
theorem d_Model_init_74 : decode b_Model_init 74 = .ok (.newarray .int, 2) := by decide +kernel
theorem d_Model_init_76 : decode b_Model_init 76 = .ok (.putfield 36, 3) := by decide +kernel
theorem d_Model_init_79 : decode b_Model_init 79 = .ok (.aload_n 0, 1) := by decide +kernel
theorem d_Model_init_80 : decode b_Model_init 80 = .ok (.sipush 160, 3) := by decide +kernel
theorem d_Model_init_83 : decode b_Model_init 83 = .ok (.newarray .int, 2) := by decide +kernel
theorem d_Model_init_85 : decode b_Model_init 85 = .ok (.putfield 39, 3) := by decide +kernel
theorem d_Model_init_88 : decode b_Model_init 88 = .ok (.return_, 1) := by decide +kernel
theorem d_Model_put_0 : decode b_Model_put 0 = .ok (.aload_n 0, 1) := by decide +kernel
theorem d_Model_put_1 : decode b_Model_put 1 = .ok (.iconst 0, 1) := by decide +kernel
theorem d_Model_put_2 : decode b_Model_put 2 = .ok (.putfield 42, 3) := by decide +kernel
theorem d_Model_put_5 : decode b_Model_put 5 = .ok (.aload_n 0, 1) := by decide +kernel
theorem d_Model_put_6 : decode b_Model_put 6 = .ok (.getfield 45, 3) := by decide +kernel
theorem d_Model_put_9 : decode b_Model_put 9 = .ok (.sipush 2000, 3) := by decide +kernel
theorem d_Model_put_12 : decode b_Model_put 12 = .ok (.if_icmp .ne 5, 3) := by decide +kernel
theorem d_Model_put_15 : decode b_Model_put 15 = .ok (.iconst 0, 1) := by decide +kernel
theorem d_Model_put_16 : decode b_Model_put 16 = .ok (.ireturn, 1) := by decide +kernel
theorem d_Model_put_17 : decode b_Model_put 17 = .ok (.aload_n 0, 1) := by decide +kernel
theorem d_Model_put_18 : decode b_Model_put 18 = .ok (.getfield 7, 3) := by decide +kernel
theorem d_Model_put_21 : decode b_Model_put 21 = .ok (.aload_n 0, 1) := by decide +kernel
theorem d_Model_put_22 : decode b_Model_put 22 = .ok (.getfield 45, 3) := by decide +kernel
theorem d_Model_put_25 : decode b_Model_put 25 = .ok (.lload_n 1, 1) := by decide +kernel
theorem d_Model_put_26 : decode b_Model_put 26 = .ok (.lastore, 1) := by decide +kernel
theorem d_Model_put_27 : decode b_Model_put 27 = .ok (.aload_n 0, 1) := by decide +kernel
theorem d_Model_put_28 : decode b_Model_put 28 = .ok (.dup, 1) := by decide +kernel
theorem d_Model_put_29 : decode b_Model_put 29 = .ok (.getfield 45, 3) := by decide +kernel
theorem d_Model_put_32 : decode b_Model_put 32 = .ok (.iconst 1, 1) := by decide +kernel
theorem d_Model_put_33 : decode b_Model_put 33 = .ok (.iadd, 1) := by decide +kernel
theorem d_Model_put_34 : decode b_Model_put 34 = .ok (.putfield 45, 3) := by decide +kernel
theorem d_Model_put_37 : decode b_Model_put 37 = .ok (.iconst 1, 1) := by decide +kernel
theorem d_Model_put_38 : decode b_Model_put 38 = .ok (.ireturn, 1) := by decide +kernel
theorem d_Model_clear_0 : decode b_Model_clear 0 = .ok (.aload_n 0, 1) := by decide +kernel
theorem d_Model_clear_1 : decode b_Model_clear 1 = .ok (.iconst 0, 1) := by decide +kernel
theorem d_Model_clear_2 : decode b_Model_clear 2 = .ok (.putfield 42, 3) := by decide +kernel
theorem d_Model_clear_5 : decode b_Model_clear 5 = .ok (.aload_n 0, 1) := by decide +kernel
theorem d_Model_clear_6 : decode b_Model_clear 6 = .ok (.iconst 0, 1) := by decide +kernel
theorem d_Model_clear_7 : decode b_Model_clear 7 = .ok (.putfield 45, 3) := by decide +kernel
theorem d_Model_clear_10 : decode b_Model_clear 10 = .ok (.return_, 1) := by decide +kernel
theorem d_Model_count_0 : decode b_Model_count 0 = .ok (.aload_n 0, 1) := by decide +kernel
theorem d_Model_count_1 : decode b_Model_count 1 = .ok (.iconst 0, 1) := by decide +kernel
theorem d_Model_count_2 : decode b_Model_count 2 = .ok (.putfield 42, 3) := by decide +kernel
theorem d_Model_count_5 : decode b_Model_count 5 = .ok (.aload_n 0, 1) := by decide +kernel
theorem d_Model_count_6 : decode b_Model_count 6 = .ok (.getfield 45, 3) := by decide +kernel
theorem d_Model_count_9 : decode b_Model_count 9 = .ok (.ireturn, 1) := by decide +kernel
theorem d_Model_get_0 : decode b_Model_get 0 = .ok (.aload_n 0, 1) := by decide +kernel
theorem d_Model_get_1 : decode b_Model_get 1 = .ok (.iconst 0, 1) := by decide +kernel
theorem d_Model_get_2 : decode b_Model_get 2 = .ok (.putfield 42, 3) := by decide +kernel
theorem d_Model_get_5 : decode b_Model_get 5 = .ok (.iload_n 1, 1) := by decide +kernel
theorem d_Model_get_6 : decode b_Model_get 6 = .ok (.ifCond .lt 11, 3) := by decide +kernel
theorem d_Model_get_9 : decode b_Model_get 9 = .ok (.iload_n 1, 1) := by decide +kernel
theorem d_Model_get_10 : decode b_Model_get 10 = .ok (.aload_n 0, 1) := by decide +kernel
theorem d_Model_get_11 : decode b_Model_get 11 = .ok (.getfield 45, 3) := by decide +kernel
theorem d_Model_get_14 : decode b_Model_get 14 = .ok (.if_icmp .lt 7, 3) := by decide +kernel
theorem d_Model_get_17 : decode b_Model_get 17 = .ok (.lconst 0, 1) := by decide +kernel
theorem d_Model_get_18 : decode b_Model_get 18 = .ok (.goto 9, 3) := by decide +kernel
theorem d_Model_get_21 : decode b_Model_get 21 = .ok (.aload_n 0, 1) := by decide +kernel
theorem d_Model_get_22 : decode b_Model_get 22 = .ok (.getfield 7, 3) := by decide +kernel
theorem d_Model_get_25 : decode b_Model_get 25 = .ok (.iload_n 1, 1) := by decide +kernel
theorem d_Model_get_26 : decode b_Model_get 26 = .ok (.laload, 1) := by decide +kernel
theorem d_Model_get_27 : decode b_Model_get 27 = .ok (.lreturn, 1) := by decide +kernel
theorem d_Model_add_0 : decode b_Model_add 0 = .ok (.aload_n 0, 1) := by decide +kernel
theorem d_Model_add_1 : decode b_Model_add 1 = .ok (.getfield 16, 3) := by decide +kernel
theorem d_Model_add_4 : decode b_Model_add 4 = .ok (.aload_n 0, 1) := by decide +kernel
theorem d_Model_add_5 : decode b_Model_add 5 = .ok (.getfield 48, 3) := by decide +kernel
theorem d_Model_add_8 : decode b_Model_add 8 = .ok (.iload_n 1, 1) := by decide +kernel
theorem d_Model_add_9 : decode b_Model_add 9 = .ok (.sipush 255, 3) := by decide +kernel
theorem d_Model_add_12 : decode b_Model_add 12 = .ok (.iand, 1) := by decide +kernel
theorem d_Model_add_13 : decode b_Model_add 13 = .ok (.iastore, 1) := by decide +kernel
theorem d_Model_add_14 : decode b_Model_add 14 = .ok (.aload_n 0, 1) := by decide +kernel
theorem d_Model_add_15 : decode b_Model_add 15 = .ok (.dup, 1) := by decide +kernel
theorem d_Model_add_16 : decode b_Model_add 16 = .ok (.getfield 48, 3) := by decide +kernel
theorem d_Model_add_19 : decode b_Model_add 19 = .ok (.iconst 1, 1) := by decide +kernel
theorem d_Model_add_20 : decode b_Model_add 20 = .ok (.iadd, 1) := by decide +kernel
theorem d_Model_add_21 : decode b_Model_add 21 = .ok (.putfield 48, 3) := by decide +kernel
theorem d_Model_add_24 : decode b_Model_add 24 = .ok (.return_, 1) := by decide +kernel
theorem d_Model_addVarint_0 : decode b_Model_addVarint 0 = .ok (.iconst 1, 1) := by decide +kernel
theorem d_Model_addVarint_1 : decode b_Model_addVarint 1 = .ok (.istore_n 3, 1) := by decide +kernel
theorem d_Model_addVarint_2 : decode b_Model_addVarint 2 = .ok (.iload_n 3, 1) := by decide +kernel
theorem d_Model_addVarint_3 : decode b_Model_addVarint 3 = .ok (.bipush 10, 2) := by decide +kernel
theorem d_Model_addVarint_5 : decode b_Model_addVarint 5 = .ok (.if_icmp .ge 20, 3) := by decide +kernel
theorem d_Model_addVarint_8 : decode b_Model_addVarint 8 = .ok (.lload_n 1, 1) := by decide +kernel
theorem d_Model_addVarint_9 : decode b_Model_addVarint 9 = .ok (.bipush 7, 2) := by decide +kernel
theorem d_Model_addVarint_11 : decode b_Model_addVarint 11 = .ok (.iload_n 3, 1) := by decide +kernel
theorem d_Model_addVarint_12 : decode b_Model_addVarint 12 = .ok (.imul, 1) := by decide +kernel
theorem d_Model_addVarint_13 : decode b_Model_addVarint 13 = .ok (.lushr, 1) := by decide +kernel
theorem d_Model_addVarint_14 : decode b_Model_addVarint 14 = .ok (.lconst 0, 1) := by decide +kernel
theorem d_Model_addVarint_15 : decode b_Model_addVarint 15 = .ok (.lcmp, 1) := by decide +kernel
theorem d_Model_addVarint_16 : decode b_Model_addVarint 16 = .ok (.ifCond .eq 9, 3) := by decide +kernel
theorem d_Model_addVarint_19 : decode b_Model_addVarint 19 = .ok (.iinc 3 1, 3) := by decide +kernel
theorem d_Model_addVarint_22 : decode b_Model_addVarint 22 = .ok (.goto (-20), 3) := by decide +kernel
theorem d_Model_addVarint_25 : decode b_Model_addVarint 25 = .ok (.iconst 0, 1) := by decide +kernel
theorem d_Model_addVarint_26 : decode b_Model_addVarint 26 = .ok (.istore 4, 2) := by decide +kernel
theorem d_Model_addVarint_28 : decode b_Model_addVarint 28 = .ok (.iload 4, 2) := by decide +kernel
theorem d_Model_addVarint_30 : decode b_Model_addVarint 30 = .ok (.iload_n 3, 1) := by decide +kernel
theorem d_Model_addVarint_31 : decode b_Model_addVarint 31 = .ok (.if_icmp .ge 41, 3) := by decide +kernel
theorem d_Model_addVarint_34 : decode b_Model_addVarint 34 = .ok (.aload_n 0, 1) := by decide +kernel
theorem d_Model_addVarint_35 : decode b_Model_addVarint 35 = .ok (.lload_n 1, 1) := by decide +kernel
theorem d_Model_addVarint_36 : decode b_Model_addVarint 36 = .ok (.bipush 7, 2) := by decide +kernel
theorem d_Model_addVarint_38 : decode b_Model_addVarint 38 = .ok (.iload 4, 2) := by decide +kernel
theorem d_Model_addVarint_40 : decode b_Model_addVarint 40 = .ok (.imul, 1) := by decide +kernel
theorem d_Model_addVarint_41 : decode b_Model_addVarint 41 = .ok (.lushr, 1) := by decide +kernel
theorem d_Model_addVarint_42 : decode b_Model_addVarint 42 = .ok (.ldc2_w 51, 3) := by decide +kernel
theorem d_Model_addVarint_45 : decode b_Model_addVarint 45 = .ok (.land, 1) := by decide +kernel
theorem d_Model_addVarint_46 : decode b_Model_addVarint 46 = .ok (.l2i, 1) := by decide +kernel
theorem d_Model_addVarint_47 : decode b_Model_addVarint 47 = .ok (.iload 4, 2) := by decide +kernel
theorem d_Model_addVarint_49 : decode b_Model_addVarint 49 = .ok (.iload_n 3, 1) := by decide +kernel
theorem d_Model_addVarint_50 : decode b_Model_addVarint 50 = .ok (.iconst 1, 1) := by decide +kernel
theorem d_Model_addVarint_51 : decode b_Model_addVarint 51 = .ok (.isub, 1) := by decide +kernel
theorem d_Model_addVarint_52 : decode b_Model_addVarint 52 = .ok (.if_icmp .ge 9, 3) := by decide +kernel
theorem d_Model_addVarint_55 : decode b_Model_addVarint 55 = .ok (.sipush 128, 3) := by decide +kernel
theorem d_Model_addVarint_58 : decode b_Model_addVarint 58 = .ok (.goto 4, 3) := by decide +kernel
theorem d_Model_addVarint_61 : decode b_Model_addVarint 61 = .ok (.iconst 0, 1) := by decide +kernel
theorem d_Model_addVarint_62 : decode b_Model_addVarint 62 = .ok (.iadd, 1) := by decide +kernel
theorem d_Model_addVarint_63 : decode b_Model_addVarint 63 = .ok (.invokevirtual 53, 3) := by decide +kernel
theorem d_Model_addVarint_66 : decode b_Model_addVarint 66 = .ok (.iinc 4 1, 3) := by decide +kernel
theorem d_Model_addVarint_69 : decode b_Model_addVarint 69 = .ok (.goto (-41), 3) := by decide +kernel
theorem d_Model_addVarint_72 : decode b_Model_addVarint 72 = .ok (.return_, 1) := by decide +kernel
theorem d_Model_zigzag_0 : decode b_Model_zigzag 0 = .ok (.lload_n 0, 1) := by decide +kernel
theorem d_Model_zigzag_1 : decode b_Model_zigzag 1 = .ok (.lconst 0, 1) := by decide +kernel
theorem d_Model_zigzag_2 : decode b_Model_zigzag 2 = .ok (.lcmp, 1) := by decide +kernel
theorem d_Model_zigzag_3 : decode b_Model_zigzag 3 = .ok (.ifCond .ge 13, 3) := by decide +kernel
theorem d_Model_zigzag_6 : decode b_Model_zigzag 6 = .ok (.ldc2_w 57, 3) := by decide +kernel
theorem d_Model_zigzag_9 : decode b_Model_zigzag 9 = .ok (.lload_n 0, 1) := by decide +kernel
theorem d_Model_zigzag_10 : decode b_Model_zigzag 10 = .ok (.lmul, 1) := by decide +kernel
theorem d_Model_zigzag_11 : decode b_Model_zigzag 11 = .ok (.lconst 1, 1) := by decide +kernel
theorem d_Model_zigzag_12 : decode b_Model_zigzag 12 = .ok (.lsub, 1) := by decide +kernel
theorem d_Model_zigzag_13 : decode b_Model_zigzag 13 = .ok (.goto 8, 3) := by decide +kernel
theorem d_Model_zigzag_16 : decode b_Model_zigzag 16 = .ok (.ldc2_w 59, 3) := by decide +kernel
theorem d_Model_zigzag_19 : decode b_Model_zigzag 19 = .ok (.lload_n 0, 1) := by decide +kernel
theorem d_Model_zigzag_20 : decode b_Model_zigzag 20 = .ok (.lmul, 1) := by decide +kernel
theorem d_Model_zigzag_21 : decode b_Model_zigzag 21 = .ok (.lreturn, 1) := by decide +kernel
theorem d_Model_unzigzag_0 : decode b_Model_unzigzag 0 = .ok (.lload_n 0, 1) := by decide +kernel
theorem d_Model_unzigzag_1 : decode b_Model_unzigzag 1 = .ok (.lconst 1, 1) := by decide +kernel
theorem d_Model_unzigzag_2 : decode b_Model_unzigzag 2 = .ok (.land, 1) := by decide +kernel
theorem d_Model_unzigzag_3 : decode b_Model_unzigzag 3 = .ok (.lconst 0, 1) := by decide +kernel
theorem d_Model_unzigzag_4 : decode b_Model_unzigzag 4 = .ok (.lcmp, 1) := by decide +kernel
theorem d_Model_unzigzag_5 : decode b_Model_unzigzag 5 = .ok (.ifCond .ne 9, 3) := by decide +kernel
theorem d_Model_unzigzag_8 : decode b_Model_unzigzag 8 = .ok (.lload_n 0, 1) := by decide +kernel
theorem d_Model_unzigzag_9 : decode b_Model_unzigzag 9 = .ok (.iconst 1, 1) := by decide +kernel
theorem d_Model_unzigzag_10 : decode b_Model_unzigzag 10 = .ok (.lushr, 1) := by decide +kernel
theorem d_Model_unzigzag_11 : decode b_Model_unzigzag 11 = .ok (.goto 9, 3) := by decide +kernel
theorem d_Model_unzigzag_14 : decode b_Model_unzigzag 14 = .ok (.lload_n 0, 1) := by decide +kernel
theorem d_Model_unzigzag_15 : decode b_Model_unzigzag 15 = .ok (.iconst 1, 1) := by decide +kernel
theorem d_Model_unzigzag_16 : decode b_Model_unzigzag 16 = .ok (.lushr, 1) := by decide +kernel
theorem d_Model_unzigzag_17 : decode b_Model_unzigzag 17 = .ok (.lneg, 1) := by decide +kernel
theorem d_Model_unzigzag_18 : decode b_Model_unzigzag 18 = .ok (.lconst 1, 1) := by decide +kernel
theorem d_Model_unzigzag_19 : decode b_Model_unzigzag 19 = .ok (.lsub, 1) := by decide +kernel
theorem d_Model_unzigzag_20 : decode b_Model_unzigzag 20 = .ok (.lreturn, 1) := by decide +kernel
theorem d_Model_difference_0 : decode b_Model_difference 0 = .ok (.aload_n 0, 1) := by decide +kernel
theorem d_Model_difference_1 : decode b_Model_difference 1 = .ok (.getfield 7, 3) := by decide +kernel
theorem d_Model_difference_4 : decode b_Model_difference 4 = .ok (.iload_n 1, 1) := by decide +kernel
theorem d_Model_difference_5 : decode b_Model_difference 5 = .ok (.iconst 1, 1) := by decide +kernel
theorem d_Model_difference_6 : decode b_Model_difference 6 = .ok (.iadd, 1) := by decide +kernel
theorem d_Model_difference_7 : decode b_Model_difference 7 = .ok (.laload, 1) := by decide +kernel
theorem d_Model_difference_8 : decode b_Model_difference 8 = .ok (.aload_n 0, 1) := by decide +kernel
theorem d_Model_difference_9 : decode b_Model_difference 9 = .ok (.getfield 7, 3) := by decide +kernel
theorem d_Model_difference_12 : decode b_Model_difference 12 = .ok (.iload_n 1, 1) := by decide +kernel
theorem d_Model_difference_13 : decode b_Model_difference 13 = .ok (.laload, 1) := by decide +kernel
theorem d_Model_difference_14 : decode b_Model_difference 14 = .ok (.lsub, 1) := by decide +kernel
theorem d_Model_difference_15 : decode b_Model_difference 15 = .ok (.lreturn, 1) := by decide +kernel
theorem d_Model_write_0 : decode b_Model_write 0 = .ok (.aload_n 0, 1) := by decide +kernel
theorem d_Model_write_1 : decode b_Model_write 1 = .ok (.iconst 0, 1) := by decide +kernel
theorem d_Model_write_2 : decode b_Model_write 2 = .ok (.putfield 42, 3) := by decide +kernel
theorem d_Model_write_5 : decode b_Model_write 5 = .ok (.aload_n 0, 1) := by decide +kernel
theorem d_Model_write_6 : decode b_Model_write 6 = .ok (.iconst 0, 1) := by decide +kernel
theorem d_Model_write_7 : decode b_Model_write 7 = .ok (.putfield 48, 3) := by decide +kernel
theorem d_Model_write_10 : decode b_Model_write 10 = .ok (.aload_n 0, 1) := by decide +kernel
theorem d_Model_write_11 : decode b_Model_write 11 = .ok (.iconst 0, 1) := by decide +kernel
theorem d_Model_write_12 : decode b_Model_write 12 = .ok (.putfield 61, 3) := by decide +kernel
theorem d_Model_write_15 : decode b_Model_write 15 = .ok (.aload_n 0, 1) := by decide +kernel
theorem d_Model_write_16 : decode b_Model_write 16 = .ok (.aload_n 0, 1) := by decide +kernel
theorem d_Model_write_17 : decode b_Model_write 17 = .ok (.getfield 45, 3) := by decide +kernel
theorem d_Model_write_20 : decode b_Model_write 20 = .ok (.i2l, 1) := by decide +kernel
theorem d_Model_write_21 : decode b_Model_write 21 = .ok (.invokevirtual 64, 3) := by decide +kernel
theorem d_Model_write_24 : decode b_Model_write 24 = .ok (.aload_n 0, 1) := by decide +kernel
theorem d_Model_write_25 : decode b_Model_write 25 = .ok (.getfield 45, 3) := by decide +kernel
theorem d_Model_write_28 : decode b_Model_write 28 = .ok (.ifCond .le 16, 3) := by decide +kernel
theorem d_Model_write_31 : decode b_Model_write 31 = .ok (.aload_n 0, 1) := by decide +kernel
theorem d_Model_write_32 : decode b_Model_write 32 = .ok (.aload_n 0, 1) := by decide +kernel
theorem d_Model_write_33 : decode b_Model_write 33 = .ok (.getfield 7, 3) := by decide +kernel
theorem d_Model_write_36 : decode b_Model_write 36 = .ok (.iconst 0, 1) := by decide +kernel
theorem d_Model_write_37 : decode b_Model_write 37 = .ok (.laload, 1) := by decide +kernel
theorem d_Model_write_38 : decode b_Model_write 38 = .ok (.invokestatic 68, 3) := by decide +kernel
theorem d_Model_write_41 : decode b_Model_write 41 = .ok (.invokevirtual 64, 3) := by decide +kernel
theorem d_Model_write_44 : decode b_Model_write 44 = .ok (.iconst 0, 1) := by decide +kernel
theorem d_Model_write_45 : decode b_Model_write 45 = .ok (.istore_n 1, 1) := by decide +kernel
theorem d_Model_write_46 : decode b_Model_write 46 = .ok (.iload_n 1, 1) := by decide +kernel
theorem d_Model_write_47 : decode b_Model_write 47 = .ok (.aload_n 0, 1) := by decide +kernel
theorem d_Model_write_48 : decode b_Model_write 48 = .ok (.getfield 45, 3) := by decide +kernel
theorem d_Model_write_51 : decode b_Model_write 51 = .ok (.iconst 1, 1) := by decide +kernel
theorem d_Model_write_52 : decode b_Model_write 52 = .ok (.isub, 1) := by decide +kernel
theorem d_Model_write_53 : decode b_Model_write 53 = .ok (.if_icmp .ge 401, 3) := by decide +kernel
theorem d_Model_write_56 : decode b_Model_write 56 = .ok (.iload_n 1, 1) := by decide +kernel
theorem d_Model_write_57 : decode b_Model_write 57 = .ok (.bipush 64, 2) := by decide +kernel
theorem d_Model_write_59 : decode b_Model_write 59 = .ok (.iadd, 1) := by decide +kernel
theorem d_Model_write_60 : decode b_Model_write 60 = .ok (.aload_n 0, 1) := by decide +kernel
theorem d_Model_write_61 : decode b_Model_write 61 = .ok (.getfield 45, 3) := by decide +kernel
theorem d_Model_write_64 : decode b_Model_write 64 = .ok (.iconst 1, 1) := by decide +kernel
theorem d_Model_write_65 : decode b_Model_write 65 = .ok (.isub, 1) := by decide +kernel
theorem d_Model_write_66 : decode b_Model_write 66 = .ok (.if_icmp .ge 10, 3) := by decide +kernel
theorem d_Model_write_69 : decode b_Model_write 69 = .ok (.iload_n 1, 1) := by decide +kernel
theorem d_Model_write_70 : decode b_Model_write 70 = .ok (.bipush 64, 2) := by decide +kernel
theorem d_Model_write_72 : decode b_Model_write 72 = .ok (.iadd, 1) := by decide +kernel
theorem d_Model_write_73 : decode b_Model_write 73 = .ok (.goto 9, 3) := by decide +kernel
theorem d_Model_write_76 : decode b_Model_write 76 = .ok (.aload_n 0, 1) := by decide +kernel
theorem d_Model_write_77 : decode b_Model_write 77 = .ok (.getfield 45, 3) := by decide +kernel
theorem d_Model_write_80 : decode b_Model_write 80 = .ok (.iconst 1, 1) := by decide +kernel
theorem d_Model_write_81 : decode b_Model_write 81 = .ok (.isub, 1) := by decide +kernel
theorem d_Model_write_82 : decode b_Model_write 82 = .ok (.istore_n 2, 1) := by decide +kernel
theorem d_Model_write_83 : decode b_Model_write 83 = .ok (.aload_n 0, 1) := by decide +kernel
theorem d_Model_write_84 : decode b_Model_write 84 = .ok (.iload_n 1, 1) := by decide +kernel
theorem d_Model_write_85 : decode b_Model_write 85 = .ok (.invokevirtual 72, 3) := by decide +kernel
theorem d_Model_write_88 : decode b_Model_write 88 = .ok (.lstore_n 3, 1) := by decide +kernel
theorem d_Model_write_89 : decode b_Model_write 89 = .ok (.iload_n 1, 1) := by decide +kernel
theorem d_Model_write_90 : decode b_Model_write 90 = .ok (.istore 5, 2) := by decide +kernel
theorem d_Model_write_92 : decode b_Model_write 92 = .ok (.iload 5, 2) := by decide +kernel
end
section
theorem d_Model_write_94 : decode b_Model_write 94 = .ok (.iload_n 2, 1) := by decide +kernel
theorem d_Model_write_95 : decode b_Model_write 95 = .ok (.if_icmp .ge 31, 3) := by decide +kernel
theorem d_Model_write_98 : decode b_Model_write 98 = .ok (.aload_n 0, 1) := by decide +kernel
theorem d_Model_write_99 : decode b_Model_write 99 = .ok (.iload 5, 2) := by decide +kernel
theorem d_Model_write_101 : decode b_Model_write 101 = .ok (.invokevirtual 72, 3) := by decide +kernel
theorem d_Model_write_104 : decode b_Model_write 104 = .ok (.lload_n 3, 1) := by decide +kernel
theorem d_Model_write_105 : decode b_Model_write 105 = .ok (.lcmp, 1) := by decide +kernel
theorem d_Model_write_106 : decode b_Model_write 106 = .ok (.ifCond .ge 12, 3) := by decide +kernel
theorem d_Model_write_109 : decode b_Model_write 109 = .ok (.aload_n 0, 1) := by decide +kernel
theorem d_Model_write_110 : decode b_Model_write 110 = .ok (.iload 5, 2) := by decide +kernel
theorem d_Model_write_112 : decode b_Model_write 112 = .ok (.invokevirtual 72, 3) := by decide +kernel
theorem d_Model_write_115 : decode b_Model_write 115 = .ok (.goto 4, 3) := by decide +kernel
theorem d_Model_write_118 : decode b_Model_write 118 = .ok (.lload_n 3, 1) := by decide +kernel
theorem d_Model_write_119 : decode b_Model_write 119 = .ok (.lstore_n 3, 1) := by decide +kernel
theorem d_Model_write_120 : decode b_Model_write 120 = .ok (.iinc 5 1, 3) := by decide +kernel
theorem d_Model_write_123 : decode b_Model_write 123 = .ok (.goto (-31), 3) := by decide +kernel
theorem d_Model_write_126 : decode b_Model_write 126 = .ok (.aload_n 0, 1) := by decide +kernel
theorem d_Model_write_127 : decode b_Model_write 127 = .ok (.getfield 24, 3) := by decide +kernel
theorem d_Model_write_130 : decode b_Model_write 130 = .ok (.aload_n 0, 1) := by decide +kernel
theorem d_Model_write_131 : decode b_Model_write 131 = .ok (.getfield 61, 3) := by decide +kernel
theorem d_Model_write_134 : decode b_Model_write 134 = .ok (.lload_n 3, 1) := by decide +kernel
theorem d_Model_write_135 : decode b_Model_write 135 = .ok (.lastore, 1) := by decide +kernel
theorem d_Model_write_136 : decode b_Model_write 136 = .ok (.aload_n 0, 1) := by decide +kernel
theorem d_Model_write_137 : decode b_Model_write 137 = .ok (.lload_n 3, 1) := by decide +kernel
theorem d_Model_write_138 : decode b_Model_write 138 = .ok (.invokestatic 68, 3) := by decide +kernel
theorem d_Model_write_141 : decode b_Model_write 141 = .ok (.invokevirtual 64, 3) := by decide +kernel
theorem d_Model_write_144 : decode b_Model_write 144 = .ok (.iconst 0, 1) := by decide +kernel
theorem d_Model_write_145 : decode b_Model_write 145 = .ok (.istore 5, 2) := by decide +kernel
theorem d_Model_write_147 : decode b_Model_write 147 = .ok (.iload 5, 2) := by decide +kernel
theorem d_Model_write_149 : decode b_Model_write 149 = .ok (.iconst 4, 1) := by decide +kernel
theorem d_Model_write_150 : decode b_Model_write 150 = .ok (.if_icmp .ge 99, 3) := by decide +kernel
theorem d_Model_write_153 : decode b_Model_write 153 = .ok (.iconst 0, 1) := by decide +kernel
theorem d_Model_write_154 : decode b_Model_write 154 = .ok (.istore 6, 2) := by decide +kernel
theorem d_Model_write_156 : decode b_Model_write 156 = .ok (.iload_n 1, 1) := by decide +kernel
theorem d_Model_write_157 : decode b_Model_write 157 = .ok (.bipush 16, 2) := by decide +kernel
theorem d_Model_write_159 : decode b_Model_write 159 = .ok (.iload 5, 2) := by decide +kernel
theorem d_Model_write_161 : decode b_Model_write 161 = .ok (.imul, 1) := by decide +kernel
theorem d_Model_write_162 : decode b_Model_write 162 = .ok (.iadd, 1) := by decide +kernel
theorem d_Model_write_163 : decode b_Model_write 163 = .ok (.istore 7, 2) := by decide +kernel
theorem d_Model_write_165 : decode b_Model_write 165 = .ok (.iload 7, 2) := by decide +kernel
theorem d_Model_write_167 : decode b_Model_write 167 = .ok (.iload_n 2, 1) := by decide +kernel
theorem d_Model_write_168 : decode b_Model_write 168 = .ok (.if_icmp .ge 53, 3) := by decide +kernel
theorem d_Model_write_171 : decode b_Model_write 171 = .ok (.iload 7, 2) := by decide +kernel
theorem d_Model_write_173 : decode b_Model_write 173 = .ok (.iload_n 1, 1) := by decide +kernel
theorem d_Model_write_174 : decode b_Model_write 174 = .ok (.bipush 16, 2) := by decide +kernel
theorem d_Model_write_176 : decode b_Model_write 176 = .ok (.iload 5, 2) := by decide +kernel
theorem d_Model_write_178 : decode b_Model_write 178 = .ok (.imul, 1) := by decide +kernel
theorem d_Model_write_179 : decode b_Model_write 179 = .ok (.iadd, 1) := by decide +kernel
theorem d_Model_write_180 : decode b_Model_write 180 = .ok (.bipush 16, 2) := by decide +kernel
theorem d_Model_write_182 : decode b_Model_write 182 = .ok (.iadd, 1) := by decide +kernel
theorem d_Model_write_183 : decode b_Model_write 183 = .ok (.if_icmp .ge 38, 3) := by decide +kernel
theorem d_Model_write_186 : decode b_Model_write 186 = .ok (.iload 6, 2) := by decide +kernel
theorem d_Model_write_188 : decode b_Model_write 188 = .ok (.bipush 64, 2) := by decide +kernel
theorem d_Model_write_190 : decode b_Model_write 190 = .ok (.if_icmp .ge 25, 3) := by decide +kernel
theorem d_Model_write_193 : decode b_Model_write 193 = .ok (.aload_n 0, 1) := by decide +kernel
theorem d_Model_write_194 : decode b_Model_write 194 = .ok (.iload 7, 2) := by decide +kernel
theorem d_Model_write_196 : decode b_Model_write 196 = .ok (.invokevirtual 72, 3) := by decide +kernel
theorem d_Model_write_199 : decode b_Model_write 199 = .ok (.lload_n 3, 1) := by decide +kernel
theorem d_Model_write_200 : decode b_Model_write 200 = .ok (.lsub, 1) := by decide +kernel
theorem d_Model_write_201 : decode b_Model_write 201 = .ok (.iload 6, 2) := by decide +kernel
theorem d_Model_write_203 : decode b_Model_write 203 = .ok (.lushr, 1) := by decide +kernel
theorem d_Model_write_204 : decode b_Model_write 204 = .ok (.lconst 0, 1) := by decide +kernel
theorem d_Model_write_205 : decode b_Model_write 205 = .ok (.lcmp, 1) := by decide +kernel
theorem d_Model_write_206 : decode b_Model_write 206 = .ok (.ifCond .eq 9, 3) := by decide +kernel
theorem d_Model_write_209 : decode b_Model_write 209 = .ok (.iinc 6 1, 3) := by decide +kernel
theorem d_Model_write_212 : decode b_Model_write 212 = .ok (.goto (-26), 3) := by decide +kernel
theorem d_Model_write_215 : decode b_Model_write 215 = .ok (.iinc 7 1, 3) := by decide +kernel
theorem d_Model_write_218 : decode b_Model_write 218 = .ok (.goto (-53), 3) := by decide +kernel
theorem d_Model_write_221 : decode b_Model_write 221 = .ok (.aload_n 0, 1) := by decide +kernel
theorem d_Model_write_222 : decode b_Model_write 222 = .ok (.getfield 30, 3) := by decide +kernel
theorem d_Model_write_225 : decode b_Model_write 225 = .ok (.iconst 4, 1) := by decide +kernel
theorem d_Model_write_226 : decode b_Model_write 226 = .ok (.aload_n 0, 1) := by decide +kernel
theorem d_Model_write_227 : decode b_Model_write 227 = .ok (.getfield 61, 3) := by decide +kernel
theorem d_Model_write_230 : decode b_Model_write 230 = .ok (.imul, 1) := by decide +kernel
theorem d_Model_write_231 : decode b_Model_write 231 = .ok (.iload 5, 2) := by decide +kernel
theorem d_Model_write_233 : decode b_Model_write 233 = .ok (.iadd, 1) := by decide +kernel
theorem d_Model_write_234 : decode b_Model_write 234 = .ok (.iload 6, 2) := by decide +kernel
theorem d_Model_write_236 : decode b_Model_write 236 = .ok (.iastore, 1) := by decide +kernel
theorem d_Model_write_237 : decode b_Model_write 237 = .ok (.aload_n 0, 1) := by decide +kernel
theorem d_Model_write_238 : decode b_Model_write 238 = .ok (.iload 6, 2) := by decide +kernel
theorem d_Model_write_240 : decode b_Model_write 240 = .ok (.invokevirtual 53, 3) := by decide +kernel
theorem d_Model_write_243 : decode b_Model_write 243 = .ok (.iinc 5 1, 3) := by decide +kernel
theorem d_Model_write_246 : decode b_Model_write 246 = .ok (.goto (-99), 3) := by decide +kernel
theorem d_Model_write_249 : decode b_Model_write 249 = .ok (.iconst 0, 1) := by decide +kernel
theorem d_Model_write_250 : decode b_Model_write 250 = .ok (.istore 5, 2) := by decide +kernel
theorem d_Model_write_252 : decode b_Model_write 252 = .ok (.iload 5, 2) := by decide +kernel
theorem d_Model_write_254 : decode b_Model_write 254 = .ok (.iconst 4, 1) := by decide +kernel
theorem d_Model_write_255 : decode b_Model_write 255 = .ok (.if_icmp .ge 183, 3) := by decide +kernel
theorem d_Model_write_258 : decode b_Model_write 258 = .ok (.aload_n 0, 1) := by decide +kernel
theorem d_Model_write_259 : decode b_Model_write 259 = .ok (.getfield 30, 3) := by decide +kernel
theorem d_Model_write_262 : decode b_Model_write 262 = .ok (.iconst 4, 1) := by decide +kernel
theorem d_Model_write_263 : decode b_Model_write 263 = .ok (.aload_n 0, 1) := by decide +kernel
theorem d_Model_write_264 : decode b_Model_write 264 = .ok (.getfield 61, 3) := by decide +kernel
theorem d_Model_write_267 : decode b_Model_write 267 = .ok (.imul, 1) := by decide +kernel
theorem d_Model_write_268 : decode b_Model_write 268 = .ok (.iload 5, 2) := by decide +kernel
theorem d_Model_write_270 : decode b_Model_write 270 = .ok (.iadd, 1) := by decide +kernel
theorem d_Model_write_271 : decode b_Model_write 271 = .ok (.iaload, 1) := by decide +kernel
theorem d_Model_write_272 : decode b_Model_write 272 = .ok (.istore 6, 2) := by decide +kernel
theorem d_Model_write_274 : decode b_Model_write 274 = .ok (.aload_n 0, 1) := by decide +kernel
theorem d_Model_write_275 : decode b_Model_write 275 = .ok (.getfield 33, 3) := by decide +kernel
theorem d_Model_write_278 : decode b_Model_write 278 = .ok (.iconst 4, 1) := by decide +kernel
theorem d_Model_write_279 : decode b_Model_write 279 = .ok (.aload_n 0, 1) := by decide +kernel
theorem d_Model_write_280 : decode b_Model_write 280 = .ok (.getfield 61, 3) := by decide +kernel
theorem d_Model_write_283 : decode b_Model_write 283 = .ok (.imul, 1) := by decide +kernel
theorem d_Model_write_284 : decode b_Model_write 284 = .ok (.iload 5, 2) := by decide +kernel
theorem d_Model_write_286 : decode b_Model_write 286 = .ok (.iadd, 1) := by decide +kernel
theorem d_Model_write_287 : decode b_Model_write 287 = .ok (.aload_n 0, 1) := by decide +kernel
theorem d_Model_write_288 : decode b_Model_write 288 = .ok (.getfield 48, 3) := by decide +kernel
theorem d_Model_write_291 : decode b_Model_write 291 = .ok (.iastore, 1) := by decide +kernel
theorem d_Model_write_292 : decode b_Model_write 292 = .ok (.iconst 0, 1) := by decide +kernel
theorem d_Model_write_293 : decode b_Model_write 293 = .ok (.istore 7, 2) := by decide +kernel
theorem d_Model_write_295 : decode b_Model_write 295 = .ok (.iload 7, 2) := by decide +kernel
theorem d_Model_write_297 : decode b_Model_write 297 = .ok (.iconst 2, 1) := by decide +kernel
theorem d_Model_write_298 : decode b_Model_write 298 = .ok (.iload 6, 2) := by decide +kernel
theorem d_Model_write_300 : decode b_Model_write 300 = .ok (.imul, 1) := by decide +kernel
theorem d_Model_write_301 : decode b_Model_write 301 = .ok (.if_icmp .ge 14, 3) := by decide +kernel
theorem d_Model_write_304 : decode b_Model_write 304 = .ok (.aload_n 0, 1) := by decide +kernel
theorem d_Model_write_305 : decode b_Model_write 305 = .ok (.iconst 0, 1) := by decide +kernel
theorem d_Model_write_306 : decode b_Model_write 306 = .ok (.invokevirtual 53, 3) := by decide +kernel
theorem d_Model_write_309 : decode b_Model_write 309 = .ok (.iinc 7 1, 3) := by decide +kernel
theorem d_Model_write_312 : decode b_Model_write 312 = .ok (.goto (-17), 3) := by decide +kernel
theorem d_Model_write_315 : decode b_Model_write 315 = .ok (.iconst 0, 1) := by decide +kernel
theorem d_Model_write_316 : decode b_Model_write 316 = .ok (.istore 7, 2) := by decide +kernel
theorem d_Model_write_318 : decode b_Model_write 318 = .ok (.iload 7, 2) := by decide +kernel
theorem d_Model_write_320 : decode b_Model_write 320 = .ok (.bipush 16, 2) := by decide +kernel
theorem d_Model_write_322 : decode b_Model_write 322 = .ok (.if_icmp .ge 110, 3) := by decide +kernel
theorem d_Model_write_325 : decode b_Model_write 325 = .ok (.iload_n 1, 1) := by decide +kernel
theorem d_Model_write_326 : decode b_Model_write 326 = .ok (.bipush 16, 2) := by decide +kernel
theorem d_Model_write_328 : decode b_Model_write 328 = .ok (.iload 5, 2) := by decide +kernel
theorem d_Model_write_330 : decode b_Model_write 330 = .ok (.imul, 1) := by decide +kernel
theorem d_Model_write_331 : decode b_Model_write 331 = .ok (.iadd, 1) := by decide +kernel
theorem d_Model_write_332 : decode b_Model_write 332 = .ok (.iload 7, 2) := by decide +kernel
theorem d_Model_write_334 : decode b_Model_write 334 = .ok (.iadd, 1) := by decide +kernel
theorem d_Model_write_335 : decode b_Model_write 335 = .ok (.iload_n 2, 1) := by decide +kernel
theorem d_Model_write_336 : decode b_Model_write 336 = .ok (.if_icmp .ge 96, 3) := by decide +kernel
theorem d_Model_write_339 : decode b_Model_write 339 = .ok (.iconst 0, 1) := by decide +kernel
theorem d_Model_write_340 : decode b_Model_write 340 = .ok (.istore 8, 2) := by decide +kernel
theorem d_Model_write_342 : decode b_Model_write 342 = .ok (.iload 8, 2) := by decide +kernel
theorem d_Model_write_344 : decode b_Model_write 344 = .ok (.iload 6, 2) := by decide +kernel
theorem d_Model_write_346 : decode b_Model_write 346 = .ok (.if_icmp .ge 80, 3) := by decide +kernel
theorem d_Model_write_349 : decode b_Model_write 349 = .ok (.iload 6, 2) := by decide +kernel
theorem d_Model_write_351 : decode b_Model_write 351 = .ok (.iload 7, 2) := by decide +kernel
theorem d_Model_write_353 : decode b_Model_write 353 = .ok (.imul, 1) := by decide +kernel
theorem d_Model_write_354 : decode b_Model_write 354 = .ok (.iload 8, 2) := by decide +kernel
theorem d_Model_write_356 : decode b_Model_write 356 = .ok (.iadd, 1) := by decide +kernel
theorem d_Model_write_357 : decode b_Model_write 357 = .ok (.istore 9, 2) := by decide +kernel
theorem d_Model_write_359 : decode b_Model_write 359 = .ok (.aload_n 0, 1) := by decide +kernel
theorem d_Model_write_360 : decode b_Model_write 360 = .ok (.iload_n 1, 1) := by decide +kernel
theorem d_Model_write_361 : decode b_Model_write 361 = .ok (.bipush 16, 2) := by decide +kernel
theorem d_Model_write_363 : decode b_Model_write 363 = .ok (.iload 5, 2) := by decide +kernel
theorem d_Model_write_365 : decode b_Model_write 365 = .ok (.imul, 1) := by decide +kernel
theorem d_Model_write_366 : decode b_Model_write 366 = .ok (.iadd, 1) := by decide +kernel
theorem d_Model_write_367 : decode b_Model_write 367 = .ok (.iload 7, 2) := by decide +kernel
theorem d_Model_write_369 : decode b_Model_write 369 = .ok (.iadd, 1) := by decide +kernel
theorem d_Model_write_370 : decode b_Model_write 370 = .ok (.invokevirtual 72, 3) := by decide +kernel
theorem d_Model_write_373 : decode b_Model_write 373 = .ok (.lload_n 3, 1) := by decide +kernel
theorem d_Model_write_374 : decode b_Model_write 374 = .ok (.lsub, 1) := by decide +kernel
theorem d_Model_write_375 : decode b_Model_write 375 = .ok (.iload 8, 2) := by decide +kernel
theorem d_Model_write_377 : decode b_Model_write 377 = .ok (.lushr, 1) := by decide +kernel
theorem d_Model_write_378 : decode b_Model_write 378 = .ok (.lconst 1, 1) := by decide +kernel
theorem d_Model_write_379 : decode b_Model_write 379 = .ok (.land, 1) := by decide +kernel
theorem d_Model_write_380 : decode b_Model_write 380 = .ok (.lconst 1, 1) := by decide +kernel
theorem d_Model_write_381 : decode b_Model_write 381 = .ok (.lcmp, 1) := by decide +kernel
theorem d_Model_write_382 : decode b_Model_write 382 = .ok (.ifCond .ne 38, 3) := by decide +kernel
theorem d_Model_write_385 : decode b_Model_write 385 = .ok (.aload_n 0, 1) := by decide +kernel
theorem d_Model_write_386 : decode b_Model_write 386 = .ok (.getfield 16, 3) := by decide +kernel
theorem d_Model_write_389 : decode b_Model_write 389 = .ok (.aload_n 0, 1) := by decide +kernel
theorem d_Model_write_390 : decode b_Model_write 390 = .ok (.getfield 33, 3) := by decide +kernel
theorem d_Model_write_393 : decode b_Model_write 393 = .ok (.iconst 4, 1) := by decide +kernel
theorem d_Model_write_394 : decode b_Model_write 394 = .ok (.aload_n 0, 1) := by decide +kernel
theorem d_Model_write_395 : decode b_Model_write 395 = .ok (.getfield 61, 3) := by decide +kernel
theorem d_Model_write_398 : decode b_Model_write 398 = .ok (.imul, 1) := by decide +kernel
theorem d_Model_write_399 : decode b_Model_write 399 = .ok (.iload 5, 2) := by decide +kernel
theorem d_Model_write_401 : decode b_Model_write 401 = .ok (.iadd, 1) := by decide +kernel
theorem d_Model_write_402 : decode b_Model_write 402 = .ok (.iaload, 1) := by decide +kernel
theorem d_Model_write_403 : decode b_Model_write 403 = .ok (.iload 9, 2) := by decide +kernel
theorem d_Model_write_405 : decode b_Model_write 405 = .ok (.bipush 8, 2) := by decide +kernel
theorem d_Model_write_407 : decode b_Model_write 407 = .ok (.idiv, 1) := by decide +kernel
theorem d_Model_write_408 : decode b_Model_write 408 = .ok (.iadd, 1) := by decide +kernel
theorem d_Model_write_409 : decode b_Model_write 409 = .ok (.dup2, 1) := by decide +kernel
theorem d_Model_write_410 : decode b_Model_write 410 = .ok (.iaload, 1) := by decide +kernel
theorem d_Model_write_411 : decode b_Model_write 411 = .ok (.iconst 1, 1) := by decide +kernel
theorem d_Model_write_412 : decode b_Model_write 412 = .ok (.iload 9, 2) := by decide +kernel
theorem d_Model_write_414 : decode b_Model_write 414 = .ok (.bipush 8, 2) := by decide +kernel
theorem d_Model_write_416 : decode b_Model_write 416 = .ok (.irem, 1) := by decide +kernel
theorem d_Model_write_417 : decode b_Model_write 417 = .ok (.ishl, 1) := by decide +kernel
theorem d_Model_write_418 : decode b_Model_write 418 = .ok (.ior, 1) := by decide +kernel
theorem d_Model_write_419 : decode b_Model_write 419 = .ok (.iastore, 1) := by decide +kernel
theorem d_Model_write_420 : decode b_Model_write 420 = .ok (.iinc 8 1, 3) := by decide +kernel
theorem d_Model_write_423 : decode b_Model_write 423 = .ok (.goto (-81), 3) := by decide +kernel
theorem d_Model_write_426 : decode b_Model_write 426 = .ok (.iinc 7 1, 3) := by decide +kernel
theorem d_Model_write_429 : decode b_Model_write 429 = .ok (.goto (-111), 3) := by decide +kernel
theorem d_Model_write_432 : decode b_Model_write 432 = .ok (.iinc 5 1, 3) := by decide +kernel
theorem d_Model_write_435 : decode b_Model_write 435 = .ok (.goto (-183), 3) := by decide +kernel
theorem d_Model_write_438 : decode b_Model_write 438 = .ok (.aload_n 0, 1) := by decide +kernel
theorem d_Model_write_439 : decode b_Model_write 439 = .ok (.dup, 1) := by decide +kernel
theorem d_Model_write_440 : decode b_Model_write 440 = .ok (.getfield 61, 3) := by decide +kernel
theorem d_Model_write_443 : decode b_Model_write 443 = .ok (.iconst 1, 1) := by decide +kernel
theorem d_Model_write_444 : decode b_Model_write 444 = .ok (.iadd, 1) := by decide +kernel
theorem d_Model_write_445 : decode b_Model_write 445 = .ok (.putfield 61, 3) := by decide +kernel
theorem d_Model_write_448 : decode b_Model_write 448 = .ok (.iinc 1 64, 3) := by decide +kernel
theorem d_Model_write_451 : decode b_Model_write 451 = .ok (.goto (-405), 3) := by decide +kernel
theorem d_Model_write_454 : decode b_Model_write 454 = .ok (.aload_n 0, 1) := by decide +kernel
theorem d_Model_write_455 : decode b_Model_write 455 = .ok (.getfield 48, 3) := by decide +kernel
theorem d_Model_write_458 : decode b_Model_write 458 = .ok (.ireturn, 1) := by decide +kernel
theorem d_Model_fail_0 : decode b_Model_fail 0 = .ok (.aload_n 0, 1) := by decide +kernel
theorem d_Model_fail_1 : decode b_Model_fail 1 = .ok (.getfield 76, 3) := by decide +kernel
theorem d_Model_fail_4 : decode b_Model_fail 4 = .ok (.ifCond .eq 4, 3) := by decide +kernel
theorem d_Model_fail_7 : decode b_Model_fail 7 = .ok (.return_, 1) := by decide +kernel
theorem d_Model_fail_8 : decode b_Model_fail 8 = .ok (.aload_n 0, 1) := by decide +kernel
theorem d_Model_fail_9 : decode b_Model_fail 9 = .ok (.iload_n 1, 1) := by decide +kernel
theorem d_Model_fail_10 : decode b_Model_fail 10 = .ok (.putfield 76, 3) := by decide +kernel
theorem d_Model_fail_13 : decode b_Model_fail 13 = .ok (.aload_n 0, 1) := by decide +kernel
theorem d_Model_fail_14 : decode b_Model_fail 14 = .ok (.iload_n 2, 1) := by decide +kernel
theorem d_Model_fail_15 : decode b_Model_fail 15 = .ok (.putfield 20, 3) := by decide +kernel
theorem d_Model_fail_18 : decode b_Model_fail 18 = .ok (.return_, 1) := by decide +kernel
theorem d_Model_next_0 : decode b_Model_next 0 = .ok (.aload_n 0, 1) := by decide +kernel
theorem d_Model_next_1 : decode b_Model_next 1 = .ok (.getfield 79, 3) := by decide +kernel
theorem d_Model_next_4 : decode b_Model_next 4 = .ok (.aload_n 0, 1) := by decide +kernel
theorem d_Model_next_5 : decode b_Model_next 5 = .ok (.getfield 48, 3) := by decide +kernel
theorem d_Model_next_8 : decode b_Model_next 8 = .ok (.if_icmp .ne 14, 3) := by decide +kernel
theorem d_Model_next_11 : decode b_Model_next 11 = .ok (.aload_n 0, 1) := by decide +kernel
theorem d_Model_next_12 : decode b_Model_next 12 = .ok (.iconst 1, 1) := by decide +kernel
theorem d_Model_next_13 : decode b_Model_next 13 = .ok (.aload_n 0, 1) := by decide +kernel
theorem d_Model_next_14 : decode b_Model_next 14 = .ok (.getfield 48, 3) := by decide +kernel
theorem d_Model_next_17 : decode b_Model_next 17 = .ok (.invokevirtual 82, 3) := by decide +kernel
theorem d_Model_next_20 : decode b_Model_next 20 = .ok (.iconst 0, 1) := by decide +kernel
theorem d_Model_next_21 : decode b_Model_next 21 = .ok (.ireturn, 1) := by decide +kernel
theorem d_Model_next_22 : decode b_Model_next 22 = .ok (.aload_n 0, 1) := by decide +kernel
theorem d_Model_next_23 : decode b_Model_next 23 = .ok (.dup, 1) := by decide +kernel
theorem d_Model_next_24 : decode b_Model_next 24 = .ok (.getfield 79, 3) := by decide +kernel
theorem d_Model_next_27 : decode b_Model_next 27 = .ok (.iconst 1, 1) := by decide +kernel
theorem d_Model_next_28 : decode b_Model_next 28 = .ok (.iadd, 1) := by decide +kernel
theorem d_Model_next_29 : decode b_Model_next 29 = .ok (.putfield 79, 3) := by decide +kernel
theorem d_Model_next_32 : decode b_Model_next 32 = .ok (.aload_n 0, 1) := by decide +kernel
theorem d_Model_next_33 : decode b_Model_next 33 = .ok (.getfield 16, 3) := by decide +kernel
theorem d_Model_next_36 : decode b_Model_next 36 = .ok (.aload_n 0, 1) := by decide +kernel
theorem d_Model_next_37 : decode b_Model_next 37 = .ok (.getfield 79, 3) := by decide +kernel
theorem d_Model_next_40 : decode b_Model_next 40 = .ok (.iconst 1, 1) := by decide +kernel
theorem d_Model_next_41 : decode b_Model_next 41 = .ok (.isub, 1) := by decide +kernel
theorem d_Model_next_42 : decode b_Model_next 42 = .ok (.iaload, 1) := by decide +kernel
theorem d_Model_next_43 : decode b_Model_next 43 = .ok (.ireturn, 1) := by decide +kernel
theorem d_Model_varint_0 : decode b_Model_varint 0 = .ok (.aload_n 0, 1) := by decide +kernel
theorem d_Model_varint_1 : decode b_Model_varint 1 = .ok (.getfield 79, 3) := by decide +kernel
theorem d_Model_varint_4 : decode b_Model_varint 4 = .ok (.istore_n 1, 1) := by decide +kernel
theorem d_Model_varint_5 : decode b_Model_varint 5 = .ok (.lconst 0, 1) := by decide +kernel
theorem d_Model_varint_6 : decode b_Model_varint 6 = .ok (.lstore_n 2, 1) := by decide +kernel
theorem d_Model_varint_7 : decode b_Model_varint 7 = .ok (.iconst 0, 1) := by decide +kernel
theorem d_Model_varint_8 : decode b_Model_varint 8 = .ok (.istore 4, 2) := by decide +kernel
theorem d_Model_varint_10 : decode b_Model_varint 10 = .ok (.aload_n 0, 1) := by decide +kernel
end
section
theorem d_Model_varint_11 : decode b_Model_varint 11 = .ok (.getfield 76, 3) := by decide +kernel
theorem d_Model_varint_14 : decode b_Model_varint 14 = .ok (.ifCond .ne 80, 3) := by decide +kernel
theorem d_Model_varint_17 : decode b_Model_varint 17 = .ok (.aload_n 0, 1) := by decide +kernel
theorem d_Model_varint_18 : decode b_Model_varint 18 = .ok (.invokevirtual 86, 3) := by decide +kernel
theorem d_Model_varint_21 : decode b_Model_varint 21 = .ok (.istore 5, 2) := by decide +kernel
theorem d_Model_varint_23 : decode b_Model_varint 23 = .ok (.aload_n 0, 1) := by decide +kernel
theorem d_Model_varint_24 : decode b_Model_varint 24 = .ok (.getfield 76, 3) := by decide +kernel
theorem d_Model_varint_27 : decode b_Model_varint 27 = .ok (.ifCond .eq 5, 3) := by decide +kernel
theorem d_Model_varint_30 : decode b_Model_varint 30 = .ok (.lconst 0, 1) := by decide +kernel
theorem d_Model_varint_31 : decode b_Model_varint 31 = .ok (.lreturn, 1) := by decide +kernel
theorem d_Model_varint_32 : decode b_Model_varint 32 = .ok (.iload 4, 2) := by decide +kernel
theorem d_Model_varint_34 : decode b_Model_varint 34 = .ok (.bipush 9, 2) := by decide +kernel
theorem d_Model_varint_36 : decode b_Model_varint 36 = .ok (.if_icmp .ne 9, 3) := by decide +kernel
theorem d_Model_varint_39 : decode b_Model_varint 39 = .ok (.iload 5, 2) := by decide +kernel
theorem d_Model_varint_41 : decode b_Model_varint 41 = .ok (.iconst 1, 1) := by decide +kernel
theorem d_Model_varint_42 : decode b_Model_varint 42 = .ok (.if_icmp .gt 13, 3) := by decide +kernel
theorem d_Model_varint_45 : decode b_Model_varint 45 = .ok (.iload 4, 2) := by decide +kernel
theorem d_Model_varint_47 : decode b_Model_varint 47 = .ok (.ifCond .le 16, 3) := by decide +kernel
theorem d_Model_varint_50 : decode b_Model_varint 50 = .ok (.iload 5, 2) := by decide +kernel
theorem d_Model_varint_52 : decode b_Model_varint 52 = .ok (.ifCond .ne 11, 3) := by decide +kernel
theorem d_Model_varint_55 : decode b_Model_varint 55 = .ok (.aload_n 0, 1) := by decide +kernel
theorem d_Model_varint_56 : decode b_Model_varint 56 = .ok (.iconst 2, 1) := by decide +kernel
theorem d_Model_varint_57 : decode b_Model_varint 57 = .ok (.iload_n 1, 1) := by decide +kernel
theorem d_Model_varint_58 : decode b_Model_varint 58 = .ok (.invokevirtual 82, 3) := by decide +kernel
theorem d_Model_varint_61 : decode b_Model_varint 61 = .ok (.lconst 0, 1) := by decide +kernel
theorem d_Model_varint_62 : decode b_Model_varint 62 = .ok (.lreturn, 1) := by decide +kernel
theorem d_Model_varint_63 : decode b_Model_varint 63 = .ok (.lload_n 2, 1) := by decide +kernel
theorem d_Model_varint_64 : decode b_Model_varint 64 = .ok (.iload 5, 2) := by decide +kernel
theorem d_Model_varint_66 : decode b_Model_varint 66 = .ok (.bipush 127, 2) := by decide +kernel
theorem d_Model_varint_68 : decode b_Model_varint 68 = .ok (.iand, 1) := by decide +kernel
theorem d_Model_varint_69 : decode b_Model_varint 69 = .ok (.i2l, 1) := by decide +kernel
theorem d_Model_varint_70 : decode b_Model_varint 70 = .ok (.bipush 7, 2) := by decide +kernel
theorem d_Model_varint_72 : decode b_Model_varint 72 = .ok (.iload 4, 2) := by decide +kernel
theorem d_Model_varint_74 : decode b_Model_varint 74 = .ok (.imul, 1) := by decide +kernel
theorem d_Model_varint_75 : decode b_Model_varint 75 = .ok (.lshl, 1) := by decide +kernel
theorem d_Model_varint_76 : decode b_Model_varint 76 = .ok (.lor, 1) := by decide +kernel
theorem d_Model_varint_77 : decode b_Model_varint 77 = .ok (.lstore_n 2, 1) := by decide +kernel
theorem d_Model_varint_78 : decode b_Model_varint 78 = .ok (.iload 5, 2) := by decide +kernel
theorem d_Model_varint_80 : decode b_Model_varint 80 = .ok (.sipush 128, 3) := by decide +kernel
theorem d_Model_varint_83 : decode b_Model_varint 83 = .ok (.if_icmp .ge 5, 3) := by decide +kernel
theorem d_Model_varint_86 : decode b_Model_varint 86 = .ok (.lload_n 2, 1) := by decide +kernel
theorem d_Model_varint_87 : decode b_Model_varint 87 = .ok (.lreturn, 1) := by decide +kernel
theorem d_Model_varint_88 : decode b_Model_varint 88 = .ok (.iinc 4 1, 3) := by decide +kernel
theorem d_Model_varint_91 : decode b_Model_varint 91 = .ok (.goto (-81), 3) := by decide +kernel
theorem d_Model_varint_94 : decode b_Model_varint 94 = .ok (.lconst 0, 1) := by decide +kernel
theorem d_Model_varint_95 : decode b_Model_varint 95 = .ok (.lreturn, 1) := by decide +kernel
theorem d_Model_inPart_0 : decode b_Model_inPart 0 = .ok (.iload_n 0, 1) := by decide +kernel
theorem d_Model_inPart_1 : decode b_Model_inPart 1 = .ok (.bipush 16, 2) := by decide +kernel
theorem d_Model_inPart_3 : decode b_Model_inPart 3 = .ok (.iload_n 1, 1) := by decide +kernel
theorem d_Model_inPart_4 : decode b_Model_inPart 4 = .ok (.imul, 1) := by decide +kernel
theorem d_Model_inPart_5 : decode b_Model_inPart 5 = .ok (.isub, 1) := by decide +kernel
theorem d_Model_inPart_6 : decode b_Model_inPart 6 = .ok (.ifCond .ge 7, 3) := by decide +kernel
theorem d_Model_inPart_9 : decode b_Model_inPart 9 = .ok (.iconst 0, 1) := by decide +kernel
theorem d_Model_inPart_10 : decode b_Model_inPart 10 = .ok (.goto 25, 3) := by decide +kernel
theorem d_Model_inPart_13 : decode b_Model_inPart 13 = .ok (.iload_n 0, 1) := by decide +kernel
theorem d_Model_inPart_14 : decode b_Model_inPart 14 = .ok (.bipush 16, 2) := by decide +kernel
theorem d_Model_inPart_16 : decode b_Model_inPart 16 = .ok (.iload_n 1, 1) := by decide +kernel
theorem d_Model_inPart_17 : decode b_Model_inPart 17 = .ok (.imul, 1) := by decide +kernel
theorem d_Model_inPart_18 : decode b_Model_inPart 18 = .ok (.isub, 1) := by decide +kernel
theorem d_Model_inPart_19 : decode b_Model_inPart 19 = .ok (.bipush 16, 2) := by decide +kernel
theorem d_Model_inPart_21 : decode b_Model_inPart 21 = .ok (.if_icmp .ge 12, 3) := by decide +kernel
theorem d_Model_inPart_24 : decode b_Model_inPart 24 = .ok (.iload_n 0, 1) := by decide +kernel
theorem d_Model_inPart_25 : decode b_Model_inPart 25 = .ok (.bipush 16, 2) := by decide +kernel
theorem d_Model_inPart_27 : decode b_Model_inPart 27 = .ok (.iload_n 1, 1) := by decide +kernel
theorem d_Model_inPart_28 : decode b_Model_inPart 28 = .ok (.imul, 1) := by decide +kernel
theorem d_Model_inPart_29 : decode b_Model_inPart 29 = .ok (.isub, 1) := by decide +kernel
theorem d_Model_inPart_30 : decode b_Model_inPart 30 = .ok (.goto 5, 3) := by decide +kernel
theorem d_Model_inPart_33 : decode b_Model_inPart 33 = .ok (.bipush 16, 2) := by decide +kernel
theorem d_Model_inPart_35 : decode b_Model_inPart 35 = .ok (.ireturn, 1) := by decide +kernel
theorem d_Model_readBlock_0 : decode b_Model_readBlock 0 = .ok (.aload_n 0, 1) := by decide +kernel
theorem d_Model_readBlock_1 : decode b_Model_readBlock 1 = .ok (.invokevirtual 90, 3) := by decide +kernel
theorem d_Model_readBlock_4 : decode b_Model_readBlock 4 = .ok (.invokestatic 94, 3) := by decide +kernel
theorem d_Model_readBlock_7 : decode b_Model_readBlock 7 = .ok (.lstore 4, 2) := by decide +kernel
theorem d_Model_readBlock_9 : decode b_Model_readBlock 9 = .ok (.aload_n 0, 1) := by decide +kernel
theorem d_Model_readBlock_10 : decode b_Model_readBlock 10 = .ok (.getfield 27, 3) := by decide +kernel
theorem d_Model_readBlock_13 : decode b_Model_readBlock 13 = .ok (.iload_n 3, 1) := by decide +kernel
theorem d_Model_readBlock_14 : decode b_Model_readBlock 14 = .ok (.lload 4, 2) := by decide +kernel
theorem d_Model_readBlock_16 : decode b_Model_readBlock 16 = .ok (.lastore, 1) := by decide +kernel
theorem d_Model_readBlock_17 : decode b_Model_readBlock 17 = .ok (.iconst 0, 1) := by decide +kernel
theorem d_Model_readBlock_18 : decode b_Model_readBlock 18 = .ok (.istore 6, 2) := by decide +kernel
theorem d_Model_readBlock_20 : decode b_Model_readBlock 20 = .ok (.iload 6, 2) := by decide +kernel
theorem d_Model_readBlock_22 : decode b_Model_readBlock 22 = .ok (.iconst 4, 1) := by decide +kernel
theorem d_Model_readBlock_23 : decode b_Model_readBlock 23 = .ok (.if_icmp .ge 67, 3) := by decide +kernel
theorem d_Model_readBlock_26 : decode b_Model_readBlock 26 = .ok (.aload_n 0, 1) := by decide +kernel
theorem d_Model_readBlock_27 : decode b_Model_readBlock 27 = .ok (.getfield 76, 3) := by decide +kernel
theorem d_Model_readBlock_30 : decode b_Model_readBlock 30 = .ok (.ifCond .ne 60, 3) := by decide +kernel
theorem d_Model_readBlock_33 : decode b_Model_readBlock 33 = .ok (.aload_n 0, 1) := by decide +kernel
theorem d_Model_readBlock_34 : decode b_Model_readBlock 34 = .ok (.invokevirtual 86, 3) := by decide +kernel
theorem d_Model_readBlock_37 : decode b_Model_readBlock 37 = .ok (.istore 7, 2) := by decide +kernel
theorem d_Model_readBlock_39 : decode b_Model_readBlock 39 = .ok (.iload 7, 2) := by decide +kernel
theorem d_Model_readBlock_41 : decode b_Model_readBlock 41 = .ok (.bipush 64, 2) := by decide +kernel
theorem d_Model_readBlock_43 : decode b_Model_readBlock 43 = .ok (.if_icmp .gt 17, 3) := by decide +kernel
theorem d_Model_readBlock_46 : decode b_Model_readBlock 46 = .ok (.iload 7, 2) := by decide +kernel
theorem d_Model_readBlock_48 : decode b_Model_readBlock 48 = .ok (.ifCond .le 23, 3) := by decide +kernel
theorem d_Model_readBlock_51 : decode b_Model_readBlock 51 = .ok (.iload_n 2, 1) := by decide +kernel
theorem d_Model_readBlock_52 : decode b_Model_readBlock 52 = .ok (.iload 6, 2) := by decide +kernel
theorem d_Model_readBlock_54 : decode b_Model_readBlock 54 = .ok (.invokestatic 97, 3) := by decide +kernel
theorem d_Model_readBlock_57 : decode b_Model_readBlock 57 = .ok (.ifCond .ne 14, 3) := by decide +kernel
theorem d_Model_readBlock_60 : decode b_Model_readBlock 60 = .ok (.aload_n 0, 1) := by decide +kernel
theorem d_Model_readBlock_61 : decode b_Model_readBlock 61 = .ok (.iconst 5, 1) := by decide +kernel
theorem d_Model_readBlock_62 : decode b_Model_readBlock 62 = .ok (.aload_n 0, 1) := by decide +kernel
theorem d_Model_readBlock_63 : decode b_Model_readBlock 63 = .ok (.getfield 79, 3) := by decide +kernel
theorem d_Model_readBlock_66 : decode b_Model_readBlock 66 = .ok (.iconst 1, 1) := by decide +kernel
theorem d_Model_readBlock_67 : decode b_Model_readBlock 67 = .ok (.isub, 1) := by decide +kernel
theorem d_Model_readBlock_68 : decode b_Model_readBlock 68 = .ok (.invokevirtual 82, 3) := by decide +kernel
theorem d_Model_readBlock_71 : decode b_Model_readBlock 71 = .ok (.aload_n 0, 1) := by decide +kernel
theorem d_Model_readBlock_72 : decode b_Model_readBlock 72 = .ok (.getfield 36, 3) := by decide +kernel
theorem d_Model_readBlock_75 : decode b_Model_readBlock 75 = .ok (.iconst 4, 1) := by decide +kernel
theorem d_Model_readBlock_76 : decode b_Model_readBlock 76 = .ok (.iload_n 3, 1) := by decide +kernel
theorem d_Model_readBlock_77 : decode b_Model_readBlock 77 = .ok (.imul, 1) := by decide +kernel
theorem d_Model_readBlock_78 : decode b_Model_readBlock 78 = .ok (.iload 6, 2) := by decide +kernel
theorem d_Model_readBlock_80 : decode b_Model_readBlock 80 = .ok (.iadd, 1) := by decide +kernel
theorem d_Model_readBlock_81 : decode b_Model_readBlock 81 = .ok (.iload 7, 2) := by decide +kernel
theorem d_Model_readBlock_83 : decode b_Model_readBlock 83 = .ok (.iastore, 1) := by decide +kernel
theorem d_Model_readBlock_84 : decode b_Model_readBlock 84 = .ok (.iinc 6 1, 3) := by decide +kernel
theorem d_Model_readBlock_87 : decode b_Model_readBlock 87 = .ok (.goto (-67), 3) := by decide +kernel
theorem d_Model_readBlock_90 : decode b_Model_readBlock 90 = .ok (.iconst 0, 1) := by decide +kernel
theorem d_Model_readBlock_91 : decode b_Model_readBlock 91 = .ok (.istore 6, 2) := by decide +kernel
theorem d_Model_readBlock_93 : decode b_Model_readBlock 93 = .ok (.iload 6, 2) := by decide +kernel
theorem d_Model_readBlock_95 : decode b_Model_readBlock 95 = .ok (.iconst 4, 1) := by decide +kernel
theorem d_Model_readBlock_96 : decode b_Model_readBlock 96 = .ok (.if_icmp .ge 228, 3) := by decide +kernel
theorem d_Model_readBlock_99 : decode b_Model_readBlock 99 = .ok (.aload_n 0, 1) := by decide +kernel
theorem d_Model_readBlock_100 : decode b_Model_readBlock 100 = .ok (.getfield 76, 3) := by decide +kernel
theorem d_Model_readBlock_103 : decode b_Model_readBlock 103 = .ok (.ifCond .ne 221, 3) := by decide +kernel
theorem d_Model_readBlock_106 : decode b_Model_readBlock 106 = .ok (.aload_n 0, 1) := by decide +kernel
theorem d_Model_readBlock_107 : decode b_Model_readBlock 107 = .ok (.getfield 36, 3) := by decide +kernel
theorem d_Model_readBlock_110 : decode b_Model_readBlock 110 = .ok (.iconst 4, 1) := by decide +kernel
theorem d_Model_readBlock_111 : decode b_Model_readBlock 111 = .ok (.iload_n 3, 1) := by decide +kernel
theorem d_Model_readBlock_112 : decode b_Model_readBlock 112 = .ok (.imul, 1) := by decide +kernel
theorem d_Model_readBlock_113 : decode b_Model_readBlock 113 = .ok (.iload 6, 2) := by decide +kernel
theorem d_Model_readBlock_115 : decode b_Model_readBlock 115 = .ok (.iadd, 1) := by decide +kernel
theorem d_Model_readBlock_116 : decode b_Model_readBlock 116 = .ok (.iaload, 1) := by decide +kernel
theorem d_Model_readBlock_117 : decode b_Model_readBlock 117 = .ok (.istore 7, 2) := by decide +kernel
theorem d_Model_readBlock_119 : decode b_Model_readBlock 119 = .ok (.aload_n 0, 1) := by decide +kernel
theorem d_Model_readBlock_120 : decode b_Model_readBlock 120 = .ok (.getfield 39, 3) := by decide +kernel
theorem d_Model_readBlock_123 : decode b_Model_readBlock 123 = .ok (.iconst 4, 1) := by decide +kernel
theorem d_Model_readBlock_124 : decode b_Model_readBlock 124 = .ok (.iload_n 3, 1) := by decide +kernel
theorem d_Model_readBlock_125 : decode b_Model_readBlock 125 = .ok (.imul, 1) := by decide +kernel
theorem d_Model_readBlock_126 : decode b_Model_readBlock 126 = .ok (.iload 6, 2) := by decide +kernel
theorem d_Model_readBlock_128 : decode b_Model_readBlock 128 = .ok (.iadd, 1) := by decide +kernel
theorem d_Model_readBlock_129 : decode b_Model_readBlock 129 = .ok (.aload_n 0, 1) := by decide +kernel
theorem d_Model_readBlock_130 : decode b_Model_readBlock 130 = .ok (.getfield 79, 3) := by decide +kernel
theorem d_Model_readBlock_133 : decode b_Model_readBlock 133 = .ok (.iastore, 1) := by decide +kernel
theorem d_Model_readBlock_134 : decode b_Model_readBlock 134 = .ok (.aload_n 0, 1) := by decide +kernel
theorem d_Model_readBlock_135 : decode b_Model_readBlock 135 = .ok (.getfield 48, 3) := by decide +kernel
theorem d_Model_readBlock_138 : decode b_Model_readBlock 138 = .ok (.aload_n 0, 1) := by decide +kernel
theorem d_Model_readBlock_139 : decode b_Model_readBlock 139 = .ok (.getfield 79, 3) := by decide +kernel
theorem d_Model_readBlock_142 : decode b_Model_readBlock 142 = .ok (.isub, 1) := by decide +kernel
theorem d_Model_readBlock_143 : decode b_Model_readBlock 143 = .ok (.iconst 2, 1) := by decide +kernel
theorem d_Model_readBlock_144 : decode b_Model_readBlock 144 = .ok (.iload 7, 2) := by decide +kernel
theorem d_Model_readBlock_146 : decode b_Model_readBlock 146 = .ok (.imul, 1) := by decide +kernel
theorem d_Model_readBlock_147 : decode b_Model_readBlock 147 = .ok (.if_icmp .ge 13, 3) := by decide +kernel
theorem d_Model_readBlock_150 : decode b_Model_readBlock 150 = .ok (.aload_n 0, 1) := by decide +kernel
theorem d_Model_readBlock_151 : decode b_Model_readBlock 151 = .ok (.iconst 1, 1) := by decide +kernel
theorem d_Model_readBlock_152 : decode b_Model_readBlock 152 = .ok (.aload_n 0, 1) := by decide +kernel
theorem d_Model_readBlock_153 : decode b_Model_readBlock 153 = .ok (.getfield 48, 3) := by decide +kernel
theorem d_Model_readBlock_156 : decode b_Model_readBlock 156 = .ok (.invokevirtual 82, 3) := by decide +kernel
theorem d_Model_readBlock_159 : decode b_Model_readBlock 159 = .ok (.return_, 1) := by decide +kernel
theorem d_Model_readBlock_160 : decode b_Model_readBlock 160 = .ok (.iconst 0, 1) := by decide +kernel
theorem d_Model_readBlock_161 : decode b_Model_readBlock 161 = .ok (.istore 8, 2) := by decide +kernel
theorem d_Model_readBlock_163 : decode b_Model_readBlock 163 = .ok (.iload 8, 2) := by decide +kernel
theorem d_Model_readBlock_165 : decode b_Model_readBlock 165 = .ok (.bipush 16, 2) := by decide +kernel
theorem d_Model_readBlock_167 : decode b_Model_readBlock 167 = .ok (.if_icmp .ge 138, 3) := by decide +kernel
theorem d_Model_readBlock_170 : decode b_Model_readBlock 170 = .ok (.lconst 0, 1) := by decide +kernel
theorem d_Model_readBlock_171 : decode b_Model_readBlock 171 = .ok (.lstore 9, 2) := by decide +kernel
theorem d_Model_readBlock_173 : decode b_Model_readBlock 173 = .ok (.iconst 0, 1) := by decide +kernel
theorem d_Model_readBlock_174 : decode b_Model_readBlock 174 = .ok (.istore 11, 2) := by decide +kernel
theorem d_Model_readBlock_176 : decode b_Model_readBlock 176 = .ok (.iload 11, 2) := by decide +kernel
theorem d_Model_readBlock_178 : decode b_Model_readBlock 178 = .ok (.iload 7, 2) := by decide +kernel
theorem d_Model_readBlock_180 : decode b_Model_readBlock 180 = .ok (.if_icmp .ge 51, 3) := by decide +kernel
theorem d_Model_readBlock_183 : decode b_Model_readBlock 183 = .ok (.iload 7, 2) := by decide +kernel
theorem d_Model_readBlock_185 : decode b_Model_readBlock 185 = .ok (.iload 8, 2) := by decide +kernel
theorem d_Model_readBlock_187 : decode b_Model_readBlock 187 = .ok (.imul, 1) := by decide +kernel
theorem d_Model_readBlock_188 : decode b_Model_readBlock 188 = .ok (.iload 11, 2) := by decide +kernel
theorem d_Model_readBlock_190 : decode b_Model_readBlock 190 = .ok (.iadd, 1) := by decide +kernel
theorem d_Model_readBlock_191 : decode b_Model_readBlock 191 = .ok (.istore 12, 2) := by decide +kernel
theorem d_Model_readBlock_193 : decode b_Model_readBlock 193 = .ok (.lload 9, 2) := by decide +kernel
theorem d_Model_readBlock_195 : decode b_Model_readBlock 195 = .ok (.aload_n 0, 1) := by decide +kernel
theorem d_Model_readBlock_196 : decode b_Model_readBlock 196 = .ok (.getfield 16, 3) := by decide +kernel
theorem d_Model_readBlock_199 : decode b_Model_readBlock 199 = .ok (.aload_n 0, 1) := by decide +kernel
theorem d_Model_readBlock_200 : decode b_Model_readBlock 200 = .ok (.getfield 79, 3) := by decide +kernel
theorem d_Model_readBlock_203 : decode b_Model_readBlock 203 = .ok (.iload 12, 2) := by decide +kernel
theorem d_Model_readBlock_205 : decode b_Model_readBlock 205 = .ok (.bipush 8, 2) := by decide +kernel
theorem d_Model_readBlock_207 : decode b_Model_readBlock 207 = .ok (.idiv, 1) := by decide +kernel
theorem d_Model_readBlock_208 : decode b_Model_readBlock 208 = .ok (.iadd, 1) := by decide +kernel
theorem d_Model_readBlock_209 : decode b_Model_readBlock 209 = .ok (.iaload, 1) := by decide +kernel
theorem d_Model_readBlock_210 : decode b_Model_readBlock 210 = .ok (.iload 12, 2) := by decide +kernel
theorem d_Model_readBlock_212 : decode b_Model_readBlock 212 = .ok (.bipush 8, 2) := by decide +kernel
theorem d_Model_readBlock_214 : decode b_Model_readBlock 214 = .ok (.irem, 1) := by decide +kernel
theorem d_Model_readBlock_215 : decode b_Model_readBlock 215 = .ok (.ishr, 1) := by decide +kernel
theorem d_Model_readBlock_216 : decode b_Model_readBlock 216 = .ok (.iconst 1, 1) := by decide +kernel
theorem d_Model_readBlock_217 : decode b_Model_readBlock 217 = .ok (.iand, 1) := by decide +kernel
theorem d_Model_readBlock_218 : decode b_Model_readBlock 218 = .ok (.i2l, 1) := by decide +kernel
theorem d_Model_readBlock_219 : decode b_Model_readBlock 219 = .ok (.iload 11, 2) := by decide +kernel
theorem d_Model_readBlock_221 : decode b_Model_readBlock 221 = .ok (.lshl, 1) := by decide +kernel
theorem d_Model_readBlock_222 : decode b_Model_readBlock 222 = .ok (.lor, 1) := by decide +kernel
theorem d_Model_readBlock_223 : decode b_Model_readBlock 223 = .ok (.lstore 9, 2) := by decide +kernel
theorem d_Model_readBlock_225 : decode b_Model_readBlock 225 = .ok (.iinc 11 1, 3) := by decide +kernel
theorem d_Model_readBlock_228 : decode b_Model_readBlock 228 = .ok (.goto (-52), 3) := by decide +kernel
theorem d_Model_readBlock_231 : decode b_Model_readBlock 231 = .ok (.iload 8, 2) := by decide +kernel
theorem d_Model_readBlock_233 : decode b_Model_readBlock 233 = .ok (.iload_n 2, 1) := by decide +kernel
theorem d_Model_readBlock_234 : decode b_Model_readBlock 234 = .ok (.iload 6, 2) := by decide +kernel
theorem d_Model_readBlock_236 : decode b_Model_readBlock 236 = .ok (.invokestatic 97, 3) := by decide +kernel
theorem d_Model_readBlock_239 : decode b_Model_readBlock 239 = .ok (.if_icmp .ge 44, 3) := by decide +kernel
theorem d_Model_readBlock_242 : decode b_Model_readBlock 242 = .ok (.aload_n 0, 1) := by decide +kernel
theorem d_Model_readBlock_243 : decode b_Model_readBlock 243 = .ok (.getfield 13, 3) := by decide +kernel
theorem d_Model_readBlock_246 : decode b_Model_readBlock 246 = .ok (.iload_n 1, 1) := by decide +kernel
theorem d_Model_readBlock_247 : decode b_Model_readBlock 247 = .ok (.bipush 16, 2) := by decide +kernel
theorem d_Model_readBlock_249 : decode b_Model_readBlock 249 = .ok (.iload 6, 2) := by decide +kernel
theorem d_Model_readBlock_251 : decode b_Model_readBlock 251 = .ok (.imul, 1) := by decide +kernel
theorem d_Model_readBlock_252 : decode b_Model_readBlock 252 = .ok (.iadd, 1) := by decide +kernel
theorem d_Model_readBlock_253 : decode b_Model_readBlock 253 = .ok (.iload 8, 2) := by decide +kernel
theorem d_Model_readBlock_255 : decode b_Model_readBlock 255 = .ok (.iadd, 1) := by decide +kernel
theorem d_Model_readBlock_256 : decode b_Model_readBlock 256 = .ok (.iconst 1, 1) := by decide +kernel
theorem d_Model_readBlock_257 : decode b_Model_readBlock 257 = .ok (.iadd, 1) := by decide +kernel
theorem d_Model_readBlock_258 : decode b_Model_readBlock 258 = .ok (.aload_n 0, 1) := by decide +kernel
theorem d_Model_readBlock_259 : decode b_Model_readBlock 259 = .ok (.getfield 13, 3) := by decide +kernel
theorem d_Model_readBlock_262 : decode b_Model_readBlock 262 = .ok (.iload_n 1, 1) := by decide +kernel
theorem d_Model_readBlock_263 : decode b_Model_readBlock 263 = .ok (.bipush 16, 2) := by decide +kernel
theorem d_Model_readBlock_265 : decode b_Model_readBlock 265 = .ok (.iload 6, 2) := by decide +kernel
theorem d_Model_readBlock_267 : decode b_Model_readBlock 267 = .ok (.imul, 1) := by decide +kernel
theorem d_Model_readBlock_268 : decode b_Model_readBlock 268 = .ok (.iadd, 1) := by decide +kernel
theorem d_Model_readBlock_269 : decode b_Model_readBlock 269 = .ok (.iload 8, 2) := by decide +kernel
theorem d_Model_readBlock_271 : decode b_Model_readBlock 271 = .ok (.iadd, 1) := by decide +kernel
theorem d_Model_readBlock_272 : decode b_Model_readBlock 272 = .ok (.laload, 1) := by decide +kernel
theorem d_Model_readBlock_273 : decode b_Model_readBlock 273 = .ok (.lload 4, 2) := by decide +kernel
theorem d_Model_readBlock_275 : decode b_Model_readBlock 275 = .ok (.ladd, 1) := by decide +kernel
theorem d_Model_readBlock_276 : decode b_Model_readBlock 276 = .ok (.lload 9, 2) := by decide +kernel
theorem d_Model_readBlock_278 : decode b_Model_readBlock 278 = .ok (.ladd, 1) := by decide +kernel
theorem d_Model_readBlock_279 : decode b_Model_readBlock 279 = .ok (.lastore, 1) := by decide +kernel
theorem d_Model_readBlock_280 : decode b_Model_readBlock 280 = .ok (.goto 19, 3) := by decide +kernel
theorem d_Model_readBlock_283 : decode b_Model_readBlock 283 = .ok (.lload 9, 2) := by decide +kernel
theorem d_Model_readBlock_285 : decode b_Model_readBlock 285 = .ok (.lconst 0, 1) := by decide +kernel
theorem d_Model_readBlock_286 : decode b_Model_readBlock 286 = .ok (.lcmp, 1) := by decide +kernel
theorem d_Model_readBlock_287 : decode b_Model_readBlock 287 = .ok (.ifCond .eq 12, 3) := by decide +kernel
theorem d_Model_readBlock_290 : decode b_Model_readBlock 290 = .ok (.aload_n 0, 1) := by decide +kernel
theorem d_Model_readBlock_291 : decode b_Model_readBlock 291 = .ok (.iconst 5, 1) := by decide +kernel
theorem d_Model_readBlock_292 : decode b_Model_readBlock 292 = .ok (.aload_n 0, 1) := by decide +kernel
theorem d_Model_readBlock_293 : decode b_Model_readBlock 293 = .ok (.getfield 79, 3) := by decide +kernel
theorem d_Model_readBlock_296 : decode b_Model_readBlock 296 = .ok (.invokevirtual 82, 3) := by decide +kernel
theorem d_Model_readBlock_299 : decode b_Model_readBlock 299 = .ok (.iinc 8 1, 3) := by decide +kernel
theorem d_Model_readBlock_302 : decode b_Model_readBlock 302 = .ok (.goto (-139), 3) := by decide +kernel
theorem d_Model_readBlock_305 : decode b_Model_readBlock 305 = .ok (.aload_n 0, 1) := by decide +kernel
theorem d_Model_readBlock_306 : decode b_Model_readBlock 306 = .ok (.dup, 1) := by decide +kernel
theorem d_Model_readBlock_307 : decode b_Model_readBlock 307 = .ok (.getfield 79, 3) := by decide +kernel
theorem d_Model_readBlock_310 : decode b_Model_readBlock 310 = .ok (.iconst 2, 1) := by decide +kernel
theorem d_Model_readBlock_311 : decode b_Model_readBlock 311 = .ok (.iload 7, 2) := by decide +kernel
theorem d_Model_readBlock_313 : decode b_Model_readBlock 313 = .ok (.imul, 1) := by decide +kernel
theorem d_Model_readBlock_314 : decode b_Model_readBlock 314 = .ok (.iadd, 1) := by decide +kernel
theorem d_Model_readBlock_315 : decode b_Model_readBlock 315 = .ok (.putfield 79, 3) := by decide +kernel
end
section
theorem d_Model_readBlock_318 : decode b_Model_readBlock 318 = .ok (.iinc 6 1, 3) := by decide +kernel
theorem d_Model_readBlock_321 : decode b_Model_readBlock 321 = .ok (.goto (-228), 3) := by decide +kernel
theorem d_Model_readBlock_324 : decode b_Model_readBlock 324 = .ok (.return_, 1) := by decide +kernel
theorem d_Model_read_0 : decode b_Model_read 0 = .ok (.aload_n 0, 1) := by decide +kernel
theorem d_Model_read_1 : decode b_Model_read 1 = .ok (.iconst 0, 1) := by decide +kernel
theorem d_Model_read_2 : decode b_Model_read 2 = .ok (.putfield 42, 3) := by decide +kernel
theorem d_Model_read_5 : decode b_Model_read 5 = .ok (.aload_n 0, 1) := by decide +kernel
theorem d_Model_read_6 : decode b_Model_read 6 = .ok (.iconst 0, 1) := by decide +kernel
theorem d_Model_read_7 : decode b_Model_read 7 = .ok (.putfield 79, 3) := by decide +kernel
theorem d_Model_read_10 : decode b_Model_read 10 = .ok (.aload_n 0, 1) := by decide +kernel
theorem d_Model_read_11 : decode b_Model_read 11 = .ok (.iconst 0, 1) := by decide +kernel
theorem d_Model_read_12 : decode b_Model_read 12 = .ok (.putfield 76, 3) := by decide +kernel
theorem d_Model_read_15 : decode b_Model_read 15 = .ok (.aload_n 0, 1) := by decide +kernel
theorem d_Model_read_16 : decode b_Model_read 16 = .ok (.iconst (-1), 1) := by decide +kernel
theorem d_Model_read_17 : decode b_Model_read 17 = .ok (.putfield 20, 3) := by decide +kernel
theorem d_Model_read_20 : decode b_Model_read 20 = .ok (.aload_n 0, 1) := by decide +kernel
theorem d_Model_read_21 : decode b_Model_read 21 = .ok (.invokevirtual 90, 3) := by decide +kernel
theorem d_Model_read_24 : decode b_Model_read 24 = .ok (.lstore_n 1, 1) := by decide +kernel
theorem d_Model_read_25 : decode b_Model_read 25 = .ok (.aload_n 0, 1) := by decide +kernel
theorem d_Model_read_26 : decode b_Model_read 26 = .ok (.getfield 76, 3) := by decide +kernel
theorem d_Model_read_29 : decode b_Model_read 29 = .ok (.ifCond .ne 23, 3) := by decide +kernel
theorem d_Model_read_32 : decode b_Model_read 32 = .ok (.lload_n 1, 1) := by decide +kernel
theorem d_Model_read_33 : decode b_Model_read 33 = .ok (.lconst 0, 1) := by decide +kernel
theorem d_Model_read_34 : decode b_Model_read 34 = .ok (.lcmp, 1) := by decide +kernel
theorem d_Model_read_35 : decode b_Model_read 35 = .ok (.ifCond .lt 11, 3) := by decide +kernel
theorem d_Model_read_38 : decode b_Model_read 38 = .ok (.lload_n 1, 1) := by decide +kernel
theorem d_Model_read_39 : decode b_Model_read 39 = .ok (.ldc2_w 101, 3) := by decide +kernel
theorem d_Model_read_42 : decode b_Model_read 42 = .ok (.lcmp, 1) := by decide +kernel
theorem d_Model_read_43 : decode b_Model_read 43 = .ok (.ifCond .le 9, 3) := by decide +kernel
theorem d_Model_read_46 : decode b_Model_read 46 = .ok (.aload_n 0, 1) := by decide +kernel
theorem d_Model_read_47 : decode b_Model_read 47 = .ok (.iconst 4, 1) := by decide +kernel
theorem d_Model_read_48 : decode b_Model_read 48 = .ok (.iconst 0, 1) := by decide +kernel
theorem d_Model_read_49 : decode b_Model_read 49 = .ok (.invokevirtual 82, 3) := by decide +kernel
theorem d_Model_read_52 : decode b_Model_read 52 = .ok (.aload_n 0, 1) := by decide +kernel
theorem d_Model_read_53 : decode b_Model_read 53 = .ok (.getfield 76, 3) := by decide +kernel
theorem d_Model_read_56 : decode b_Model_read 56 = .ok (.ifCond .ne 22, 3) := by decide +kernel
theorem d_Model_read_59 : decode b_Model_read 59 = .ok (.lload_n 1, 1) := by decide +kernel
theorem d_Model_read_60 : decode b_Model_read 60 = .ok (.lconst 0, 1) := by decide +kernel
theorem d_Model_read_61 : decode b_Model_read 61 = .ok (.lcmp, 1) := by decide +kernel
theorem d_Model_read_62 : decode b_Model_read 62 = .ok (.ifCond .le 16, 3) := by decide +kernel
theorem d_Model_read_65 : decode b_Model_read 65 = .ok (.aload_n 0, 1) := by decide +kernel
theorem d_Model_read_66 : decode b_Model_read 66 = .ok (.getfield 13, 3) := by decide +kernel
theorem d_Model_read_69 : decode b_Model_read 69 = .ok (.iconst 0, 1) := by decide +kernel
theorem d_Model_read_70 : decode b_Model_read 70 = .ok (.aload_n 0, 1) := by decide +kernel
theorem d_Model_read_71 : decode b_Model_read 71 = .ok (.invokevirtual 90, 3) := by decide +kernel
theorem d_Model_read_74 : decode b_Model_read 74 = .ok (.invokestatic 94, 3) := by decide +kernel
theorem d_Model_read_77 : decode b_Model_read 77 = .ok (.lastore, 1) := by decide +kernel
theorem d_Model_read_78 : decode b_Model_read 78 = .ok (.iconst 0, 1) := by decide +kernel
theorem d_Model_read_79 : decode b_Model_read 79 = .ok (.istore_n 3, 1) := by decide +kernel
theorem d_Model_read_80 : decode b_Model_read 80 = .ok (.iconst 0, 1) := by decide +kernel
theorem d_Model_read_81 : decode b_Model_read 81 = .ok (.istore 4, 2) := by decide +kernel
theorem d_Model_read_83 : decode b_Model_read 83 = .ok (.iload 4, 2) := by decide +kernel
theorem d_Model_read_85 : decode b_Model_read 85 = .ok (.i2l, 1) := by decide +kernel
theorem d_Model_read_86 : decode b_Model_read 86 = .ok (.lload_n 1, 1) := by decide +kernel
theorem d_Model_read_87 : decode b_Model_read 87 = .ok (.lconst 1, 1) := by decide +kernel
theorem d_Model_read_88 : decode b_Model_read 88 = .ok (.lsub, 1) := by decide +kernel
theorem d_Model_read_89 : decode b_Model_read 89 = .ok (.lcmp, 1) := by decide +kernel
theorem d_Model_read_90 : decode b_Model_read 90 = .ok (.ifCond .ge 54, 3) := by decide +kernel
theorem d_Model_read_93 : decode b_Model_read 93 = .ok (.aload_n 0, 1) := by decide +kernel
theorem d_Model_read_94 : decode b_Model_read 94 = .ok (.getfield 76, 3) := by decide +kernel
theorem d_Model_read_97 : decode b_Model_read 97 = .ok (.ifCond .ne 47, 3) := by decide +kernel
theorem d_Model_read_100 : decode b_Model_read 100 = .ok (.lload_n 1, 1) := by decide +kernel
theorem d_Model_read_101 : decode b_Model_read 101 = .ok (.l2i, 1) := by decide +kernel
theorem d_Model_read_102 : decode b_Model_read 102 = .ok (.iconst 1, 1) := by decide +kernel
theorem d_Model_read_103 : decode b_Model_read 103 = .ok (.isub, 1) := by decide +kernel
theorem d_Model_read_104 : decode b_Model_read 104 = .ok (.iload 4, 2) := by decide +kernel
theorem d_Model_read_106 : decode b_Model_read 106 = .ok (.isub, 1) := by decide +kernel
theorem d_Model_read_107 : decode b_Model_read 107 = .ok (.bipush 64, 2) := by decide +kernel
theorem d_Model_read_109 : decode b_Model_read 109 = .ok (.if_icmp .ge 13, 3) := by decide +kernel
theorem d_Model_read_112 : decode b_Model_read 112 = .ok (.lload_n 1, 1) := by decide +kernel
theorem d_Model_read_113 : decode b_Model_read 113 = .ok (.l2i, 1) := by decide +kernel
theorem d_Model_read_114 : decode b_Model_read 114 = .ok (.iconst 1, 1) := by decide +kernel
theorem d_Model_read_115 : decode b_Model_read 115 = .ok (.isub, 1) := by decide +kernel
theorem d_Model_read_116 : decode b_Model_read 116 = .ok (.iload 4, 2) := by decide +kernel
theorem d_Model_read_118 : decode b_Model_read 118 = .ok (.isub, 1) := by decide +kernel
theorem d_Model_read_119 : decode b_Model_read 119 = .ok (.goto 5, 3) := by decide +kernel
theorem d_Model_read_122 : decode b_Model_read 122 = .ok (.bipush 64, 2) := by decide +kernel
theorem d_Model_read_124 : decode b_Model_read 124 = .ok (.istore 5, 2) := by decide +kernel
theorem d_Model_read_126 : decode b_Model_read 126 = .ok (.aload_n 0, 1) := by decide +kernel
theorem d_Model_read_127 : decode b_Model_read 127 = .ok (.iload 4, 2) := by decide +kernel
theorem d_Model_read_129 : decode b_Model_read 129 = .ok (.iload 5, 2) := by decide +kernel
theorem d_Model_read_131 : decode b_Model_read 131 = .ok (.iload_n 3, 1) := by decide +kernel
theorem d_Model_read_132 : decode b_Model_read 132 = .ok (.invokevirtual 103, 3) := by decide +kernel
theorem d_Model_read_135 : decode b_Model_read 135 = .ok (.iinc 3 1, 3) := by decide +kernel
theorem d_Model_read_138 : decode b_Model_read 138 = .ok (.iinc 4 64, 3) := by decide +kernel
theorem d_Model_read_141 : decode b_Model_read 141 = .ok (.goto (-58), 3) := by decide +kernel
theorem d_Model_read_144 : decode b_Model_read 144 = .ok (.aload_n 0, 1) := by decide +kernel
theorem d_Model_read_145 : decode b_Model_read 145 = .ok (.getfield 76, 3) := by decide +kernel
theorem d_Model_read_148 : decode b_Model_read 148 = .ok (.ifCond .ne 24, 3) := by decide +kernel
theorem d_Model_read_151 : decode b_Model_read 151 = .ok (.aload_n 0, 1) := by decide +kernel
theorem d_Model_read_152 : decode b_Model_read 152 = .ok (.getfield 79, 3) := by decide +kernel
theorem d_Model_read_155 : decode b_Model_read 155 = .ok (.aload_n 0, 1) := by decide +kernel
theorem d_Model_read_156 : decode b_Model_read 156 = .ok (.getfield 48, 3) := by decide +kernel
theorem d_Model_read_159 : decode b_Model_read 159 = .ok (.if_icmp .ge 13, 3) := by decide +kernel
theorem d_Model_read_162 : decode b_Model_read 162 = .ok (.aload_n 0, 1) := by decide +kernel
theorem d_Model_read_163 : decode b_Model_read 163 = .ok (.bipush 6, 2) := by decide +kernel
theorem d_Model_read_165 : decode b_Model_read 165 = .ok (.aload_n 0, 1) := by decide +kernel
theorem d_Model_read_166 : decode b_Model_read 166 = .ok (.getfield 79, 3) := by decide +kernel
theorem d_Model_read_169 : decode b_Model_read 169 = .ok (.invokevirtual 82, 3) := by decide +kernel
theorem d_Model_read_172 : decode b_Model_read 172 = .ok (.aload_n 0, 1) := by decide +kernel
theorem d_Model_read_173 : decode b_Model_read 173 = .ok (.getfield 76, 3) := by decide +kernel
theorem d_Model_read_176 : decode b_Model_read 176 = .ok (.ifCond .eq 8, 3) := by decide +kernel
theorem d_Model_read_179 : decode b_Model_read 179 = .ok (.aload_n 0, 1) := by decide +kernel
theorem d_Model_read_180 : decode b_Model_read 180 = .ok (.getfield 76, 3) := by decide +kernel
theorem d_Model_read_183 : decode b_Model_read 183 = .ok (.ireturn, 1) := by decide +kernel
theorem d_Model_read_184 : decode b_Model_read 184 = .ok (.aload_n 0, 1) := by decide +kernel
theorem d_Model_read_185 : decode b_Model_read 185 = .ok (.lload_n 1, 1) := by decide +kernel
theorem d_Model_read_186 : decode b_Model_read 186 = .ok (.l2i, 1) := by decide +kernel
theorem d_Model_read_187 : decode b_Model_read 187 = .ok (.putfield 45, 3) := by decide +kernel
theorem d_Model_read_190 : decode b_Model_read 190 = .ok (.iconst 0, 1) := by decide +kernel
theorem d_Model_read_191 : decode b_Model_read 191 = .ok (.istore 4, 2) := by decide +kernel
theorem d_Model_read_193 : decode b_Model_read 193 = .ok (.iload 4, 2) := by decide +kernel
theorem d_Model_read_195 : decode b_Model_read 195 = .ok (.aload_n 0, 1) := by decide +kernel
theorem d_Model_read_196 : decode b_Model_read 196 = .ok (.getfield 45, 3) := by decide +kernel
theorem d_Model_read_199 : decode b_Model_read 199 = .ok (.if_icmp .ge 23, 3) := by decide +kernel
theorem d_Model_read_202 : decode b_Model_read 202 = .ok (.aload_n 0, 1) := by decide +kernel
theorem d_Model_read_203 : decode b_Model_read 203 = .ok (.getfield 7, 3) := by decide +kernel
theorem d_Model_read_206 : decode b_Model_read 206 = .ok (.iload 4, 2) := by decide +kernel
theorem d_Model_read_208 : decode b_Model_read 208 = .ok (.aload_n 0, 1) := by decide +kernel
theorem d_Model_read_209 : decode b_Model_read 209 = .ok (.getfield 13, 3) := by decide +kernel
theorem d_Model_read_212 : decode b_Model_read 212 = .ok (.iload 4, 2) := by decide +kernel
theorem d_Model_read_214 : decode b_Model_read 214 = .ok (.laload, 1) := by decide +kernel
theorem d_Model_read_215 : decode b_Model_read 215 = .ok (.lastore, 1) := by decide +kernel
theorem d_Model_read_216 : decode b_Model_read 216 = .ok (.iinc 4 1, 3) := by decide +kernel
theorem d_Model_read_219 : decode b_Model_read 219 = .ok (.goto (-26), 3) := by decide +kernel
theorem d_Model_read_222 : decode b_Model_read 222 = .ok (.aload_n 0, 1) := by decide +kernel
theorem d_Model_read_223 : decode b_Model_read 223 = .ok (.iload_n 3, 1) := by decide +kernel
theorem d_Model_read_224 : decode b_Model_read 224 = .ok (.putfield 61, 3) := by decide +kernel
theorem d_Model_read_227 : decode b_Model_read 227 = .ok (.iconst 0, 1) := by decide +kernel
theorem d_Model_read_228 : decode b_Model_read 228 = .ok (.istore 4, 2) := by decide +kernel
theorem d_Model_read_230 : decode b_Model_read 230 = .ok (.iload 4, 2) := by decide +kernel
theorem d_Model_read_232 : decode b_Model_read 232 = .ok (.iload_n 3, 1) := by decide +kernel
theorem d_Model_read_233 : decode b_Model_read 233 = .ok (.if_icmp .ge 23, 3) := by decide +kernel
theorem d_Model_read_236 : decode b_Model_read 236 = .ok (.aload_n 0, 1) := by decide +kernel
theorem d_Model_read_237 : decode b_Model_read 237 = .ok (.getfield 24, 3) := by decide +kernel
theorem d_Model_read_240 : decode b_Model_read 240 = .ok (.iload 4, 2) := by decide +kernel
theorem d_Model_read_242 : decode b_Model_read 242 = .ok (.aload_n 0, 1) := by decide +kernel
theorem d_Model_read_243 : decode b_Model_read 243 = .ok (.getfield 27, 3) := by decide +kernel
theorem d_Model_read_246 : decode b_Model_read 246 = .ok (.iload 4, 2) := by decide +kernel
theorem d_Model_read_248 : decode b_Model_read 248 = .ok (.laload, 1) := by decide +kernel
theorem d_Model_read_249 : decode b_Model_read 249 = .ok (.lastore, 1) := by decide +kernel
theorem d_Model_read_250 : decode b_Model_read 250 = .ok (.iinc 4 1, 3) := by decide +kernel
theorem d_Model_read_253 : decode b_Model_read 253 = .ok (.goto (-23), 3) := by decide +kernel
theorem d_Model_read_256 : decode b_Model_read 256 = .ok (.iconst 0, 1) := by decide +kernel
theorem d_Model_read_257 : decode b_Model_read 257 = .ok (.istore 4, 2) := by decide +kernel
theorem d_Model_read_259 : decode b_Model_read 259 = .ok (.iload 4, 2) := by decide +kernel
theorem d_Model_read_261 : decode b_Model_read 261 = .ok (.iconst 4, 1) := by decide +kernel
theorem d_Model_read_262 : decode b_Model_read 262 = .ok (.iload_n 3, 1) := by decide +kernel
theorem d_Model_read_263 : decode b_Model_read 263 = .ok (.imul, 1) := by decide +kernel
theorem d_Model_read_264 : decode b_Model_read 264 = .ok (.if_icmp .ge 37, 3) := by decide +kernel
theorem d_Model_read_267 : decode b_Model_read 267 = .ok (.aload_n 0, 1) := by decide +kernel
theorem d_Model_read_268 : decode b_Model_read 268 = .ok (.getfield 30, 3) := by decide +kernel
theorem d_Model_read_271 : decode b_Model_read 271 = .ok (.iload 4, 2) := by decide +kernel
theorem d_Model_read_273 : decode b_Model_read 273 = .ok (.aload_n 0, 1) := by decide +kernel
theorem d_Model_read_274 : decode b_Model_read 274 = .ok (.getfield 36, 3) := by decide +kernel
theorem d_Model_read_277 : decode b_Model_read 277 = .ok (.iload 4, 2) := by decide +kernel
theorem d_Model_read_279 : decode b_Model_read 279 = .ok (.iaload, 1) := by decide +kernel
theorem d_Model_read_280 : decode b_Model_read 280 = .ok (.iastore, 1) := by decide +kernel
theorem d_Model_read_281 : decode b_Model_read 281 = .ok (.aload_n 0, 1) := by decide +kernel
theorem d_Model_read_282 : decode b_Model_read 282 = .ok (.getfield 33, 3) := by decide +kernel
theorem d_Model_read_285 : decode b_Model_read 285 = .ok (.iload 4, 2) := by decide +kernel
theorem d_Model_read_287 : decode b_Model_read 287 = .ok (.aload_n 0, 1) := by decide +kernel
theorem d_Model_read_288 : decode b_Model_read 288 = .ok (.getfield 39, 3) := by decide +kernel
theorem d_Model_read_291 : decode b_Model_read 291 = .ok (.iload 4, 2) := by decide +kernel
theorem d_Model_read_293 : decode b_Model_read 293 = .ok (.iaload, 1) := by decide +kernel
theorem d_Model_read_294 : decode b_Model_read 294 = .ok (.iastore, 1) := by decide +kernel
theorem d_Model_read_295 : decode b_Model_read 295 = .ok (.iinc 4 1, 3) := by decide +kernel
theorem d_Model_read_298 : decode b_Model_read 298 = .ok (.goto (-39), 3) := by decide +kernel
theorem d_Model_read_301 : decode b_Model_read 301 = .ok (.iconst 0, 1) := by decide +kernel
theorem d_Model_read_302 : decode b_Model_read 302 = .ok (.ireturn, 1) := by decide +kernel
theorem d_Model_place_0 : decode b_Model_place 0 = .ok (.aload_n 0, 1) := by decide +kernel
theorem d_Model_place_1 : decode b_Model_place 1 = .ok (.iconst 0, 1) := by decide +kernel
theorem d_Model_place_2 : decode b_Model_place 2 = .ok (.putfield 42, 3) := by decide +kernel
theorem d_Model_place_5 : decode b_Model_place 5 = .ok (.aload_n 0, 1) := by decide +kernel
theorem d_Model_place_6 : decode b_Model_place 6 = .ok (.getfield 20, 3) := by decide +kernel
theorem d_Model_place_9 : decode b_Model_place 9 = .ok (.ireturn, 1) := by decide +kernel
theorem d_Model_size_0 : decode b_Model_size 0 = .ok (.aload_n 0, 1) := by decide +kernel
theorem d_Model_size_1 : decode b_Model_size 1 = .ok (.iconst 0, 1) := by decide +kernel
theorem d_Model_size_2 : decode b_Model_size 2 = .ok (.putfield 42, 3) := by decide +kernel
theorem d_Model_size_5 : decode b_Model_size 5 = .ok (.aload_n 0, 1) := by decide +kernel
theorem d_Model_size_6 : decode b_Model_size 6 = .ok (.getfield 48, 3) := by decide +kernel
theorem d_Model_size_9 : decode b_Model_size 9 = .ok (.ireturn, 1) := by decide +kernel
theorem d_Model_byteAt_0 : decode b_Model_byteAt 0 = .ok (.aload_n 0, 1) := by decide +kernel
theorem d_Model_byteAt_1 : decode b_Model_byteAt 1 = .ok (.iconst 0, 1) := by decide +kernel
theorem d_Model_byteAt_2 : decode b_Model_byteAt 2 = .ok (.putfield 42, 3) := by decide +kernel
theorem d_Model_byteAt_5 : decode b_Model_byteAt 5 = .ok (.iload_n 1, 1) := by decide +kernel
theorem d_Model_byteAt_6 : decode b_Model_byteAt 6 = .ok (.ifCond .lt 11, 3) := by decide +kernel
theorem d_Model_byteAt_9 : decode b_Model_byteAt 9 = .ok (.iload_n 1, 1) := by decide +kernel
theorem d_Model_byteAt_10 : decode b_Model_byteAt 10 = .ok (.aload_n 0, 1) := by decide +kernel
theorem d_Model_byteAt_11 : decode b_Model_byteAt 11 = .ok (.getfield 48, 3) := by decide +kernel
theorem d_Model_byteAt_14 : decode b_Model_byteAt 14 = .ok (.if_icmp .lt 7, 3) := by decide +kernel
theorem d_Model_byteAt_17 : decode b_Model_byteAt 17 = .ok (.iconst (-1), 1) := by decide +kernel
theorem d_Model_byteAt_18 : decode b_Model_byteAt 18 = .ok (.goto 9, 3) := by decide +kernel
theorem d_Model_byteAt_21 : decode b_Model_byteAt 21 = .ok (.aload_n 0, 1) := by decide +kernel
theorem d_Model_byteAt_22 : decode b_Model_byteAt 22 = .ok (.getfield 16, 3) := by decide +kernel
theorem d_Model_byteAt_25 : decode b_Model_byteAt 25 = .ok (.iload_n 1, 1) := by decide +kernel
theorem d_Model_byteAt_26 : decode b_Model_byteAt 26 = .ok (.iaload, 1) := by decide +kernel
theorem d_Model_byteAt_27 : decode b_Model_byteAt 27 = .ok (.ireturn, 1) := by decide +kernel
theorem d_Model_setByte_0 : decode b_Model_setByte 0 = .ok (.aload_n 0, 1) := by decide +kernel
theorem d_Model_setByte_1 : decode b_Model_setByte 1 = .ok (.iconst 0, 1) := by decide +kernel
theorem d_Model_setByte_2 : decode b_Model_setByte 2 = .ok (.putfield 42, 3) := by decide +kernel
theorem d_Model_setByte_5 : decode b_Model_setByte 5 = .ok (.iload_n 1, 1) := by decide +kernel
theorem d_Model_setByte_6 : decode b_Model_setByte 6 = .ok (.ifCond .lt 11, 3) := by decide +kernel
theorem d_Model_setByte_9 : decode b_Model_setByte 9 = .ok (.iload_n 1, 1) := by decide +kernel
theorem d_Model_setByte_10 : decode b_Model_setByte 10 = .ok (.aload_n 0, 1) := by decide +kernel
theorem d_Model_setByte_11 : decode b_Model_setByte 11 = .ok (.getfield 48, 3) := by decide +kernel
theorem d_Model_setByte_14 : decode b_Model_setByte 14 = .ok (.if_icmp .lt 5, 3) := by decide +kernel
theorem d_Model_setByte_17 : decode b_Model_setByte 17 = .ok (.iconst 0, 1) := by decide +kernel
theorem d_Model_setByte_18 : decode b_Model_setByte 18 = .ok (.ireturn, 1) := by decide +kernel
theorem d_Model_setByte_19 : decode b_Model_setByte 19 = .ok (.aload_n 0, 1) := by decide +kernel
theorem d_Model_setByte_20 : decode b_Model_setByte 20 = .ok (.getfield 16, 3) := by decide +kernel
theorem d_Model_setByte_23 : decode b_Model_setByte 23 = .ok (.iload_n 1, 1) := by decide +kernel
theorem d_Model_setByte_24 : decode b_Model_setByte 24 = .ok (.iload_n 2, 1) := by decide +kernel
theorem d_Model_setByte_25 : decode b_Model_setByte 25 = .ok (.sipush 255, 3) := by decide +kernel
theorem d_Model_setByte_28 : decode b_Model_setByte 28 = .ok (.iand, 1) := by decide +kernel
theorem d_Model_setByte_29 : decode b_Model_setByte 29 = .ok (.iastore, 1) := by decide +kernel
theorem d_Model_setByte_30 : decode b_Model_setByte 30 = .ok (.iconst 1, 1) := by decide +kernel
theorem d_Model_setByte_31 : decode b_Model_setByte 31 = .ok (.ireturn, 1) := by decide +kernel
theorem d_Model_append_0 : decode b_Model_append 0 = .ok (.aload_n 0, 1) := by decide +kernel
theorem d_Model_append_1 : decode b_Model_append 1 = .ok (.iconst 0, 1) := by decide +kernel
theorem d_Model_append_2 : decode b_Model_append 2 = .ok (.putfield 42, 3) := by decide +kernel
theorem d_Model_append_5 : decode b_Model_append 5 = .ok (.aload_n 0, 1) := by decide +kernel
theorem d_Model_append_6 : decode b_Model_append 6 = .ok (.getfield 48, 3) := by decide +kernel
theorem d_Model_append_9 : decode b_Model_append 9 = .ok (.sipush 20000, 3) := by decide +kernel
theorem d_Model_append_12 : decode b_Model_append 12 = .ok (.if_icmp .ne 5, 3) := by decide +kernel
theorem d_Model_append_15 : decode b_Model_append 15 = .ok (.iconst 0, 1) := by decide +kernel
theorem d_Model_append_16 : decode b_Model_append 16 = .ok (.ireturn, 1) := by decide +kernel
theorem d_Model_append_17 : decode b_Model_append 17 = .ok (.aload_n 0, 1) := by decide +kernel
theorem d_Model_append_18 : decode b_Model_append 18 = .ok (.iload_n 1, 1) := by decide +kernel
theorem d_Model_append_19 : decode b_Model_append 19 = .ok (.invokevirtual 53, 3) := by decide +kernel
theorem d_Model_append_22 : decode b_Model_append 22 = .ok (.iconst 1, 1) := by decide +kernel
theorem d_Model_append_23 : decode b_Model_append 23 = .ok (.ireturn, 1) := by decide +kernel
theorem d_Model_cut_0 : decode b_Model_cut 0 = .ok (.aload_n 0, 1) := by decide +kernel
theorem d_Model_cut_1 : decode b_Model_cut 1 = .ok (.iconst 0, 1) := by decide +kernel
theorem d_Model_cut_2 : decode b_Model_cut 2 = .ok (.putfield 42, 3) := by decide +kernel
theorem d_Model_cut_5 : decode b_Model_cut 5 = .ok (.iload_n 1, 1) := by decide +kernel
theorem d_Model_cut_6 : decode b_Model_cut 6 = .ok (.ifCond .lt 11, 3) := by decide +kernel
theorem d_Model_cut_9 : decode b_Model_cut 9 = .ok (.iload_n 1, 1) := by decide +kernel
theorem d_Model_cut_10 : decode b_Model_cut 10 = .ok (.aload_n 0, 1) := by decide +kernel
theorem d_Model_cut_11 : decode b_Model_cut 11 = .ok (.getfield 48, 3) := by decide +kernel
theorem d_Model_cut_14 : decode b_Model_cut 14 = .ok (.if_icmp .le 5, 3) := by decide +kernel
theorem d_Model_cut_17 : decode b_Model_cut 17 = .ok (.iconst 0, 1) := by decide +kernel
theorem d_Model_cut_18 : decode b_Model_cut 18 = .ok (.ireturn, 1) := by decide +kernel
theorem d_Model_cut_19 : decode b_Model_cut 19 = .ok (.aload_n 0, 1) := by decide +kernel
theorem d_Model_cut_20 : decode b_Model_cut 20 = .ok (.iload_n 1, 1) := by decide +kernel
theorem d_Model_cut_21 : decode b_Model_cut 21 = .ok (.putfield 48, 3) := by decide +kernel
theorem d_Model_cut_24 : decode b_Model_cut 24 = .ok (.iconst 1, 1) := by decide +kernel
theorem d_Model_cut_25 : decode b_Model_cut 25 = .ok (.ireturn, 1) := by decide +kernel
theorem d_Model_blocks_0 : decode b_Model_blocks 0 = .ok (.aload_n 0, 1) := by decide +kernel
theorem d_Model_blocks_1 : decode b_Model_blocks 1 = .ok (.iconst 0, 1) := by decide +kernel
end
section
theorem d_Model_blocks_2 : decode b_Model_blocks 2 = .ok (.putfield 42, 3) := by decide +kernel
theorem d_Model_blocks_5 : decode b_Model_blocks 5 = .ok (.aload_n 0, 1) := by decide +kernel
theorem d_Model_blocks_6 : decode b_Model_blocks 6 = .ok (.getfield 61, 3) := by decide +kernel
theorem d_Model_blocks_9 : decode b_Model_blocks 9 = .ok (.ireturn, 1) := by decide +kernel
theorem d_Model_least_0 : decode b_Model_least 0 = .ok (.aload_n 0, 1) := by decide +kernel
theorem d_Model_least_1 : decode b_Model_least 1 = .ok (.iconst 0, 1) := by decide +kernel
theorem d_Model_least_2 : decode b_Model_least 2 = .ok (.putfield 42, 3) := by decide +kernel
theorem d_Model_least_5 : decode b_Model_least 5 = .ok (.iload_n 1, 1) := by decide +kernel
theorem d_Model_least_6 : decode b_Model_least 6 = .ok (.ifCond .lt 11, 3) := by decide +kernel
theorem d_Model_least_9 : decode b_Model_least 9 = .ok (.iload_n 1, 1) := by decide +kernel
theorem d_Model_least_10 : decode b_Model_least 10 = .ok (.aload_n 0, 1) := by decide +kernel
theorem d_Model_least_11 : decode b_Model_least 11 = .ok (.getfield 61, 3) := by decide +kernel
theorem d_Model_least_14 : decode b_Model_least 14 = .ok (.if_icmp .lt 7, 3) := by decide +kernel
theorem d_Model_least_17 : decode b_Model_least 17 = .ok (.lconst 0, 1) := by decide +kernel
theorem d_Model_least_18 : decode b_Model_least 18 = .ok (.goto 9, 3) := by decide +kernel
theorem d_Model_least_21 : decode b_Model_least 21 = .ok (.aload_n 0, 1) := by decide +kernel
theorem d_Model_least_22 : decode b_Model_least 22 = .ok (.getfield 24, 3) := by decide +kernel
theorem d_Model_least_25 : decode b_Model_least 25 = .ok (.iload_n 1, 1) := by decide +kernel
theorem d_Model_least_26 : decode b_Model_least 26 = .ok (.laload, 1) := by decide +kernel
theorem d_Model_least_27 : decode b_Model_least 27 = .ok (.lreturn, 1) := by decide +kernel
theorem d_Model_width_0 : decode b_Model_width 0 = .ok (.aload_n 0, 1) := by decide +kernel
theorem d_Model_width_1 : decode b_Model_width 1 = .ok (.iconst 0, 1) := by decide +kernel
theorem d_Model_width_2 : decode b_Model_width 2 = .ok (.putfield 42, 3) := by decide +kernel
theorem d_Model_width_5 : decode b_Model_width 5 = .ok (.iload_n 1, 1) := by decide +kernel
theorem d_Model_width_6 : decode b_Model_width 6 = .ok (.ifCond .lt 20, 3) := by decide +kernel
theorem d_Model_width_9 : decode b_Model_width 9 = .ok (.iload_n 1, 1) := by decide +kernel
theorem d_Model_width_10 : decode b_Model_width 10 = .ok (.aload_n 0, 1) := by decide +kernel
theorem d_Model_width_11 : decode b_Model_width 11 = .ok (.getfield 61, 3) := by decide +kernel
theorem d_Model_width_14 : decode b_Model_width 14 = .ok (.if_icmp .ge 12, 3) := by decide +kernel
theorem d_Model_width_17 : decode b_Model_width 17 = .ok (.iload_n 2, 1) := by decide +kernel
theorem d_Model_width_18 : decode b_Model_width 18 = .ok (.ifCond .lt 8, 3) := by decide +kernel
theorem d_Model_width_21 : decode b_Model_width 21 = .ok (.iload_n 2, 1) := by decide +kernel
theorem d_Model_width_22 : decode b_Model_width 22 = .ok (.iconst 3, 1) := by decide +kernel
theorem d_Model_width_23 : decode b_Model_width 23 = .ok (.if_icmp .le 7, 3) := by decide +kernel
theorem d_Model_width_26 : decode b_Model_width 26 = .ok (.iconst (-1), 1) := by decide +kernel
theorem d_Model_width_27 : decode b_Model_width 27 = .ok (.goto 13, 3) := by decide +kernel
theorem d_Model_width_30 : decode b_Model_width 30 = .ok (.aload_n 0, 1) := by decide +kernel
theorem d_Model_width_31 : decode b_Model_width 31 = .ok (.getfield 30, 3) := by decide +kernel
theorem d_Model_width_34 : decode b_Model_width 34 = .ok (.iconst 4, 1) := by decide +kernel
theorem d_Model_width_35 : decode b_Model_width 35 = .ok (.iload_n 1, 1) := by decide +kernel
theorem d_Model_width_36 : decode b_Model_width 36 = .ok (.imul, 1) := by decide +kernel
theorem d_Model_width_37 : decode b_Model_width 37 = .ok (.iload_n 2, 1) := by decide +kernel
theorem d_Model_width_38 : decode b_Model_width 38 = .ok (.iadd, 1) := by decide +kernel
theorem d_Model_width_39 : decode b_Model_width 39 = .ok (.iaload, 1) := by decide +kernel
theorem d_Model_width_40 : decode b_Model_width 40 = .ok (.ireturn, 1) := by decide +kernel
theorem d_Model_start_0 : decode b_Model_start 0 = .ok (.aload_n 0, 1) := by decide +kernel
theorem d_Model_start_1 : decode b_Model_start 1 = .ok (.iconst 0, 1) := by decide +kernel
theorem d_Model_start_2 : decode b_Model_start 2 = .ok (.putfield 42, 3) := by decide +kernel
theorem d_Model_start_5 : decode b_Model_start 5 = .ok (.iload_n 1, 1) := by decide +kernel
theorem d_Model_start_6 : decode b_Model_start 6 = .ok (.ifCond .lt 20, 3) := by decide +kernel
theorem d_Model_start_9 : decode b_Model_start 9 = .ok (.iload_n 1, 1) := by decide +kernel
theorem d_Model_start_10 : decode b_Model_start 10 = .ok (.aload_n 0, 1) := by decide +kernel
theorem d_Model_start_11 : decode b_Model_start 11 = .ok (.getfield 61, 3) := by decide +kernel
theorem d_Model_start_14 : decode b_Model_start 14 = .ok (.if_icmp .ge 12, 3) := by decide +kernel
theorem d_Model_start_17 : decode b_Model_start 17 = .ok (.iload_n 2, 1) := by decide +kernel
theorem d_Model_start_18 : decode b_Model_start 18 = .ok (.ifCond .lt 8, 3) := by decide +kernel
theorem d_Model_start_21 : decode b_Model_start 21 = .ok (.iload_n 2, 1) := by decide +kernel
theorem d_Model_start_22 : decode b_Model_start 22 = .ok (.iconst 3, 1) := by decide +kernel
theorem d_Model_start_23 : decode b_Model_start 23 = .ok (.if_icmp .le 7, 3) := by decide +kernel
theorem d_Model_start_26 : decode b_Model_start 26 = .ok (.iconst (-1), 1) := by decide +kernel
theorem d_Model_start_27 : decode b_Model_start 27 = .ok (.goto 13, 3) := by decide +kernel
theorem d_Model_start_30 : decode b_Model_start 30 = .ok (.aload_n 0, 1) := by decide +kernel
theorem d_Model_start_31 : decode b_Model_start 31 = .ok (.getfield 33, 3) := by decide +kernel
theorem d_Model_start_34 : decode b_Model_start 34 = .ok (.iconst 4, 1) := by decide +kernel
theorem d_Model_start_35 : decode b_Model_start 35 = .ok (.iload_n 1, 1) := by decide +kernel
theorem d_Model_start_36 : decode b_Model_start 36 = .ok (.imul, 1) := by decide +kernel
theorem d_Model_start_37 : decode b_Model_start 37 = .ok (.iload_n 2, 1) := by decide +kernel
theorem d_Model_start_38 : decode b_Model_start 38 = .ok (.iadd, 1) := by decide +kernel
theorem d_Model_start_39 : decode b_Model_start 39 = .ok (.iaload, 1) := by decide +kernel
theorem d_Model_start_40 : decode b_Model_start 40 = .ok (.ireturn, 1) := by decide +kernel
end
section
theorem d_law_law_0 : decode b_law_law 0 = .ok (.new 7, 3) := by decide +kernel
theorem d_law_law_3 : decode b_law_law 3 = .ok (.dup, 1) := by decide +kernel
theorem d_law_law_4 : decode b_law_law 4 = .ok (.invokespecial 9, 3) := by decide +kernel
theorem d_law_law_7 : decode b_law_law 7 = .ok (.astore_n 1, 1) := by decide +kernel
theorem d_law_law_8 : decode b_law_law 8 = .ok (.new 10, 3) := by decide +kernel
theorem d_law_law_11 : decode b_law_law 11 = .ok (.dup, 1) := by decide +kernel
theorem d_law_law_12 : decode b_law_law 12 = .ok (.invokespecial 12, 3) := by decide +kernel
theorem d_law_law_15 : decode b_law_law 15 = .ok (.astore_n 2, 1) := by decide +kernel
theorem d_law_law_16 : decode b_law_law 16 = .ok (.iconst 0, 1) := by decide +kernel
theorem d_law_law_17 : decode b_law_law 17 = .ok (.istore_n 3, 1) := by decide +kernel
theorem d_law_law_18 : decode b_law_law 18 = .ok (.iload_n 3, 1) := by decide +kernel
theorem d_law_law_19 : decode b_law_law 19 = .ok (.aload_n 0, 1) := by decide +kernel
theorem d_law_law_20 : decode b_law_law 20 = .ok (.arraylength, 1) := by decide +kernel
theorem d_law_law_21 : decode b_law_law 21 = .ok (.iconst 3, 1) := by decide +kernel
theorem d_law_law_22 : decode b_law_law 22 = .ok (.isub, 1) := by decide +kernel
theorem d_law_law_23 : decode b_law_law 23 = .ok (.if_icmp .gt 453, 3) := by decide +kernel
theorem d_law_law_26 : decode b_law_law 26 = .ok (.aload_n 0, 1) := by decide +kernel
theorem d_law_law_27 : decode b_law_law 27 = .ok (.iload_n 3, 1) := by decide +kernel
theorem d_law_law_28 : decode b_law_law 28 = .ok (.iaload, 1) := by decide +kernel
theorem d_law_law_29 : decode b_law_law 29 = .ok (.bipush 15, 2) := by decide +kernel
theorem d_law_law_31 : decode b_law_law 31 = .ok (.iand, 1) := by decide +kernel
theorem d_law_law_112 : decode b_law_law 112 = .ok (.aload_n 1, 1) := by decide +kernel
theorem d_law_law_113 : decode b_law_law 113 = .ok (.aload_n 0, 1) := by decide +kernel
theorem d_law_law_114 : decode b_law_law 114 = .ok (.iload_n 3, 1) := by decide +kernel
theorem d_law_law_115 : decode b_law_law 115 = .ok (.iconst 1, 1) := by decide +kernel
theorem d_law_law_116 : decode b_law_law 116 = .ok (.iadd, 1) := by decide +kernel
theorem d_law_law_117 : decode b_law_law 117 = .ok (.iaload, 1) := by decide +kernel
theorem d_law_law_118 : decode b_law_law 118 = .ok (.i2l, 1) := by decide +kernel
theorem d_law_law_119 : decode b_law_law 119 = .ok (.bipush 32, 2) := by decide +kernel
theorem d_law_law_121 : decode b_law_law 121 = .ok (.lshl, 1) := by decide +kernel
theorem d_law_law_122 : decode b_law_law 122 = .ok (.aload_n 0, 1) := by decide +kernel
theorem d_law_law_123 : decode b_law_law 123 = .ok (.iload_n 3, 1) := by decide +kernel
theorem d_law_law_124 : decode b_law_law 124 = .ok (.iconst 2, 1) := by decide +kernel
theorem d_law_law_125 : decode b_law_law 125 = .ok (.iadd, 1) := by decide +kernel
theorem d_law_law_126 : decode b_law_law 126 = .ok (.iaload, 1) := by decide +kernel
theorem d_law_law_127 : decode b_law_law 127 = .ok (.i2l, 1) := by decide +kernel
theorem d_law_law_128 : decode b_law_law 128 = .ok (.ldc2_w 13, 3) := by decide +kernel
theorem d_law_law_131 : decode b_law_law 131 = .ok (.land, 1) := by decide +kernel
theorem d_law_law_132 : decode b_law_law 132 = .ok (.lor, 1) := by decide +kernel
theorem d_law_law_133 : decode b_law_law 133 = .ok (.invokevirtual 15, 3) := by decide +kernel
theorem d_law_law_136 : decode b_law_law 136 = .ok (.aload_n 2, 1) := by decide +kernel
theorem d_law_law_137 : decode b_law_law 137 = .ok (.aload_n 0, 1) := by decide +kernel
theorem d_law_law_138 : decode b_law_law 138 = .ok (.iload_n 3, 1) := by decide +kernel
theorem d_law_law_139 : decode b_law_law 139 = .ok (.iconst 1, 1) := by decide +kernel
theorem d_law_law_140 : decode b_law_law 140 = .ok (.iadd, 1) := by decide +kernel
theorem d_law_law_141 : decode b_law_law 141 = .ok (.iaload, 1) := by decide +kernel
theorem d_law_law_142 : decode b_law_law 142 = .ok (.i2l, 1) := by decide +kernel
theorem d_law_law_143 : decode b_law_law 143 = .ok (.bipush 32, 2) := by decide +kernel
theorem d_law_law_145 : decode b_law_law 145 = .ok (.lshl, 1) := by decide +kernel
theorem d_law_law_146 : decode b_law_law 146 = .ok (.aload_n 0, 1) := by decide +kernel
theorem d_law_law_147 : decode b_law_law 147 = .ok (.iload_n 3, 1) := by decide +kernel
theorem d_law_law_148 : decode b_law_law 148 = .ok (.iconst 2, 1) := by decide +kernel
theorem d_law_law_149 : decode b_law_law 149 = .ok (.iadd, 1) := by decide +kernel
theorem d_law_law_150 : decode b_law_law 150 = .ok (.iaload, 1) := by decide +kernel
theorem d_law_law_151 : decode b_law_law 151 = .ok (.i2l, 1) := by decide +kernel
theorem d_law_law_152 : decode b_law_law 152 = .ok (.ldc2_w 13, 3) := by decide +kernel
theorem d_law_law_155 : decode b_law_law 155 = .ok (.land, 1) := by decide +kernel
theorem d_law_law_156 : decode b_law_law 156 = .ok (.lor, 1) := by decide +kernel
theorem d_law_law_157 : decode b_law_law 157 = .ok (.invokevirtual 19, 3) := by decide +kernel
theorem d_law_law_160 : decode b_law_law 160 = .ok (.if_icmp .eq 310, 3) := by decide +kernel
theorem d_law_law_163 : decode b_law_law 163 = .ok (.iconst 0, 1) := by decide +kernel
theorem d_law_law_164 : decode b_law_law 164 = .ok (.ireturn, 1) := by decide +kernel
theorem d_law_law_165 : decode b_law_law 165 = .ok (.aload_n 1, 1) := by decide +kernel
theorem d_law_law_166 : decode b_law_law 166 = .ok (.invokevirtual 20, 3) := by decide +kernel
theorem d_law_law_169 : decode b_law_law 169 = .ok (.aload_n 2, 1) := by decide +kernel
theorem d_law_law_170 : decode b_law_law 170 = .ok (.invokevirtual 23, 3) := by decide +kernel
theorem d_law_law_173 : decode b_law_law 173 = .ok (.goto 297, 3) := by decide +kernel
theorem d_law_law_176 : decode b_law_law 176 = .ok (.aload_n 1, 1) := by decide +kernel
theorem d_law_law_177 : decode b_law_law 177 = .ok (.invokevirtual 24, 3) := by decide +kernel
theorem d_law_law_180 : decode b_law_law 180 = .ok (.aload_n 2, 1) := by decide +kernel
theorem d_law_law_181 : decode b_law_law 181 = .ok (.invokevirtual 28, 3) := by decide +kernel
theorem d_law_law_184 : decode b_law_law 184 = .ok (.if_icmp .eq 286, 3) := by decide +kernel
theorem d_law_law_187 : decode b_law_law 187 = .ok (.iconst 0, 1) := by decide +kernel
theorem d_law_law_188 : decode b_law_law 188 = .ok (.ireturn, 1) := by decide +kernel
theorem d_law_law_189 : decode b_law_law 189 = .ok (.aload_n 1, 1) := by decide +kernel
theorem d_law_law_190 : decode b_law_law 190 = .ok (.aload_n 0, 1) := by decide +kernel
theorem d_law_law_191 : decode b_law_law 191 = .ok (.iload_n 3, 1) := by decide +kernel
theorem d_law_law_192 : decode b_law_law 192 = .ok (.iconst 1, 1) := by decide +kernel
theorem d_law_law_193 : decode b_law_law 193 = .ok (.iadd, 1) := by decide +kernel
theorem d_law_law_194 : decode b_law_law 194 = .ok (.iaload, 1) := by decide +kernel
theorem d_law_law_195 : decode b_law_law 195 = .ok (.invokevirtual 29, 3) := by decide +kernel
theorem d_law_law_198 : decode b_law_law 198 = .ok (.aload_n 2, 1) := by decide +kernel
theorem d_law_law_199 : decode b_law_law 199 = .ok (.aload_n 0, 1) := by decide +kernel
theorem d_law_law_200 : decode b_law_law 200 = .ok (.iload_n 3, 1) := by decide +kernel
theorem d_law_law_201 : decode b_law_law 201 = .ok (.iconst 1, 1) := by decide +kernel
theorem d_law_law_202 : decode b_law_law 202 = .ok (.iadd, 1) := by decide +kernel
theorem d_law_law_203 : decode b_law_law 203 = .ok (.iaload, 1) := by decide +kernel
theorem d_law_law_204 : decode b_law_law 204 = .ok (.invokevirtual 33, 3) := by decide +kernel
theorem d_law_law_207 : decode b_law_law 207 = .ok (.lcmp, 1) := by decide +kernel
theorem d_law_law_208 : decode b_law_law 208 = .ok (.ifCond .eq 262, 3) := by decide +kernel
theorem d_law_law_211 : decode b_law_law 211 = .ok (.iconst 0, 1) := by decide +kernel
theorem d_law_law_212 : decode b_law_law 212 = .ok (.ireturn, 1) := by decide +kernel
theorem d_law_law_213 : decode b_law_law 213 = .ok (.aload_n 1, 1) := by decide +kernel
theorem d_law_law_214 : decode b_law_law 214 = .ok (.invokevirtual 34, 3) := by decide +kernel
theorem d_law_law_217 : decode b_law_law 217 = .ok (.aload_n 2, 1) := by decide +kernel
theorem d_law_law_218 : decode b_law_law 218 = .ok (.invokevirtual 37, 3) := by decide +kernel
theorem d_law_law_221 : decode b_law_law 221 = .ok (.if_icmp .eq 249, 3) := by decide +kernel
theorem d_law_law_224 : decode b_law_law 224 = .ok (.iconst 0, 1) := by decide +kernel
theorem d_law_law_225 : decode b_law_law 225 = .ok (.ireturn, 1) := by decide +kernel
theorem d_law_law_226 : decode b_law_law 226 = .ok (.aload_n 1, 1) := by decide +kernel
theorem d_law_law_227 : decode b_law_law 227 = .ok (.invokevirtual 38, 3) := by decide +kernel
theorem d_law_law_230 : decode b_law_law 230 = .ok (.aload_n 2, 1) := by decide +kernel
theorem d_law_law_231 : decode b_law_law 231 = .ok (.invokevirtual 41, 3) := by decide +kernel
theorem d_law_law_234 : decode b_law_law 234 = .ok (.if_icmp .eq 236, 3) := by decide +kernel
theorem d_law_law_237 : decode b_law_law 237 = .ok (.iconst 0, 1) := by decide +kernel
theorem d_law_law_238 : decode b_law_law 238 = .ok (.ireturn, 1) := by decide +kernel
theorem d_law_law_239 : decode b_law_law 239 = .ok (.aload_n 1, 1) := by decide +kernel
theorem d_law_law_240 : decode b_law_law 240 = .ok (.invokevirtual 42, 3) := by decide +kernel
theorem d_law_law_243 : decode b_law_law 243 = .ok (.aload_n 2, 1) := by decide +kernel
theorem d_law_law_244 : decode b_law_law 244 = .ok (.invokevirtual 45, 3) := by decide +kernel
theorem d_law_law_247 : decode b_law_law 247 = .ok (.if_icmp .eq 223, 3) := by decide +kernel
theorem d_law_law_250 : decode b_law_law 250 = .ok (.iconst 0, 1) := by decide +kernel
theorem d_law_law_251 : decode b_law_law 251 = .ok (.ireturn, 1) := by decide +kernel
theorem d_law_law_252 : decode b_law_law 252 = .ok (.aload_n 1, 1) := by decide +kernel
theorem d_law_law_253 : decode b_law_law 253 = .ok (.invokevirtual 46, 3) := by decide +kernel
theorem d_law_law_256 : decode b_law_law 256 = .ok (.aload_n 2, 1) := by decide +kernel
theorem d_law_law_257 : decode b_law_law 257 = .ok (.invokevirtual 49, 3) := by decide +kernel
theorem d_law_law_260 : decode b_law_law 260 = .ok (.if_icmp .eq 210, 3) := by decide +kernel
theorem d_law_law_263 : decode b_law_law 263 = .ok (.iconst 0, 1) := by decide +kernel
theorem d_law_law_264 : decode b_law_law 264 = .ok (.ireturn, 1) := by decide +kernel
theorem d_law_law_265 : decode b_law_law 265 = .ok (.aload_n 1, 1) := by decide +kernel
theorem d_law_law_266 : decode b_law_law 266 = .ok (.aload_n 0, 1) := by decide +kernel
theorem d_law_law_267 : decode b_law_law 267 = .ok (.iload_n 3, 1) := by decide +kernel
theorem d_law_law_268 : decode b_law_law 268 = .ok (.iconst 1, 1) := by decide +kernel
theorem d_law_law_269 : decode b_law_law 269 = .ok (.iadd, 1) := by decide +kernel
theorem d_law_law_270 : decode b_law_law 270 = .ok (.iaload, 1) := by decide +kernel
theorem d_law_law_271 : decode b_law_law 271 = .ok (.invokevirtual 50, 3) := by decide +kernel
theorem d_law_law_274 : decode b_law_law 274 = .ok (.aload_n 2, 1) := by decide +kernel
theorem d_law_law_275 : decode b_law_law 275 = .ok (.aload_n 0, 1) := by decide +kernel
theorem d_law_law_276 : decode b_law_law 276 = .ok (.iload_n 3, 1) := by decide +kernel
theorem d_law_law_277 : decode b_law_law 277 = .ok (.iconst 1, 1) := by decide +kernel
theorem d_law_law_278 : decode b_law_law 278 = .ok (.iadd, 1) := by decide +kernel
theorem d_law_law_279 : decode b_law_law 279 = .ok (.iaload, 1) := by decide +kernel
theorem d_law_law_280 : decode b_law_law 280 = .ok (.invokevirtual 54, 3) := by decide +kernel
theorem d_law_law_283 : decode b_law_law 283 = .ok (.if_icmp .eq 187, 3) := by decide +kernel
theorem d_law_law_286 : decode b_law_law 286 = .ok (.iconst 0, 1) := by decide +kernel
theorem d_law_law_287 : decode b_law_law 287 = .ok (.ireturn, 1) := by decide +kernel
theorem d_law_law_288 : decode b_law_law 288 = .ok (.aload_n 1, 1) := by decide +kernel
theorem d_law_law_289 : decode b_law_law 289 = .ok (.aload_n 0, 1) := by decide +kernel
theorem d_law_law_290 : decode b_law_law 290 = .ok (.iload_n 3, 1) := by decide +kernel
theorem d_law_law_291 : decode b_law_law 291 = .ok (.iconst 1, 1) := by decide +kernel
theorem d_law_law_292 : decode b_law_law 292 = .ok (.iadd, 1) := by decide +kernel
theorem d_law_law_293 : decode b_law_law 293 = .ok (.iaload, 1) := by decide +kernel
theorem d_law_law_294 : decode b_law_law 294 = .ok (.aload_n 0, 1) := by decide +kernel
theorem d_law_law_295 : decode b_law_law 295 = .ok (.iload_n 3, 1) := by decide +kernel
theorem d_law_law_296 : decode b_law_law 296 = .ok (.iconst 2, 1) := by decide +kernel
theorem d_law_law_297 : decode b_law_law 297 = .ok (.iadd, 1) := by decide +kernel
theorem d_law_law_298 : decode b_law_law 298 = .ok (.iaload, 1) := by decide +kernel
theorem d_law_law_299 : decode b_law_law 299 = .ok (.invokevirtual 55, 3) := by decide +kernel
theorem d_law_law_302 : decode b_law_law 302 = .ok (.aload_n 2, 1) := by decide +kernel
theorem d_law_law_303 : decode b_law_law 303 = .ok (.aload_n 0, 1) := by decide +kernel
theorem d_law_law_304 : decode b_law_law 304 = .ok (.iload_n 3, 1) := by decide +kernel
theorem d_law_law_305 : decode b_law_law 305 = .ok (.iconst 1, 1) := by decide +kernel
theorem d_law_law_306 : decode b_law_law 306 = .ok (.iadd, 1) := by decide +kernel
theorem d_law_law_307 : decode b_law_law 307 = .ok (.iaload, 1) := by decide +kernel
theorem d_law_law_308 : decode b_law_law 308 = .ok (.aload_n 0, 1) := by decide +kernel
theorem d_law_law_309 : decode b_law_law 309 = .ok (.iload_n 3, 1) := by decide +kernel
theorem d_law_law_310 : decode b_law_law 310 = .ok (.iconst 2, 1) := by decide +kernel
theorem d_law_law_311 : decode b_law_law 311 = .ok (.iadd, 1) := by decide +kernel
theorem d_law_law_312 : decode b_law_law 312 = .ok (.iaload, 1) := by decide +kernel
theorem d_law_law_313 : decode b_law_law 313 = .ok (.invokevirtual 59, 3) := by decide +kernel
theorem d_law_law_316 : decode b_law_law 316 = .ok (.if_icmp .eq 154, 3) := by decide +kernel
theorem d_law_law_319 : decode b_law_law 319 = .ok (.iconst 0, 1) := by decide +kernel
theorem d_law_law_320 : decode b_law_law 320 = .ok (.ireturn, 1) := by decide +kernel
theorem d_law_law_321 : decode b_law_law 321 = .ok (.aload_n 1, 1) := by decide +kernel
theorem d_law_law_322 : decode b_law_law 322 = .ok (.aload_n 0, 1) := by decide +kernel
theorem d_law_law_323 : decode b_law_law 323 = .ok (.iload_n 3, 1) := by decide +kernel
theorem d_law_law_324 : decode b_law_law 324 = .ok (.iconst 1, 1) := by decide +kernel
theorem d_law_law_325 : decode b_law_law 325 = .ok (.iadd, 1) := by decide +kernel
theorem d_law_law_326 : decode b_law_law 326 = .ok (.iaload, 1) := by decide +kernel
theorem d_law_law_327 : decode b_law_law 327 = .ok (.invokevirtual 60, 3) := by decide +kernel
theorem d_law_law_330 : decode b_law_law 330 = .ok (.aload_n 2, 1) := by decide +kernel
theorem d_law_law_331 : decode b_law_law 331 = .ok (.aload_n 0, 1) := by decide +kernel
theorem d_law_law_332 : decode b_law_law 332 = .ok (.iload_n 3, 1) := by decide +kernel
theorem d_law_law_333 : decode b_law_law 333 = .ok (.iconst 1, 1) := by decide +kernel
theorem d_law_law_334 : decode b_law_law 334 = .ok (.iadd, 1) := by decide +kernel
theorem d_law_law_335 : decode b_law_law 335 = .ok (.iaload, 1) := by decide +kernel
theorem d_law_law_336 : decode b_law_law 336 = .ok (.invokevirtual 64, 3) := by decide +kernel
theorem d_law_law_339 : decode b_law_law 339 = .ok (.if_icmp .eq 131, 3) := by decide +kernel
theorem d_law_law_342 : decode b_law_law 342 = .ok (.iconst 0, 1) := by decide +kernel
theorem d_law_law_343 : decode b_law_law 343 = .ok (.ireturn, 1) := by decide +kernel
theorem d_law_law_344 : decode b_law_law 344 = .ok (.aload_n 1, 1) := by decide +kernel
theorem d_law_law_345 : decode b_law_law 345 = .ok (.aload_n 0, 1) := by decide +kernel
theorem d_law_law_346 : decode b_law_law 346 = .ok (.iload_n 3, 1) := by decide +kernel
theorem d_law_law_347 : decode b_law_law 347 = .ok (.iconst 1, 1) := by decide +kernel
theorem d_law_law_348 : decode b_law_law 348 = .ok (.iadd, 1) := by decide +kernel
theorem d_law_law_349 : decode b_law_law 349 = .ok (.iaload, 1) := by decide +kernel
theorem d_law_law_350 : decode b_law_law 350 = .ok (.invokevirtual 65, 3) := by decide +kernel
theorem d_law_law_353 : decode b_law_law 353 = .ok (.aload_n 2, 1) := by decide +kernel
theorem d_law_law_354 : decode b_law_law 354 = .ok (.aload_n 0, 1) := by decide +kernel
theorem d_law_law_355 : decode b_law_law 355 = .ok (.iload_n 3, 1) := by decide +kernel
theorem d_law_law_356 : decode b_law_law 356 = .ok (.iconst 1, 1) := by decide +kernel
theorem d_law_law_357 : decode b_law_law 357 = .ok (.iadd, 1) := by decide +kernel
theorem d_law_law_358 : decode b_law_law 358 = .ok (.iaload, 1) := by decide +kernel
theorem d_law_law_359 : decode b_law_law 359 = .ok (.invokevirtual 68, 3) := by decide +kernel
theorem d_law_law_362 : decode b_law_law 362 = .ok (.if_icmp .eq 108, 3) := by decide +kernel
theorem d_law_law_365 : decode b_law_law 365 = .ok (.iconst 0, 1) := by decide +kernel
theorem d_law_law_366 : decode b_law_law 366 = .ok (.ireturn, 1) := by decide +kernel
theorem d_law_law_367 : decode b_law_law 367 = .ok (.aload_n 1, 1) := by decide +kernel
theorem d_law_law_368 : decode b_law_law 368 = .ok (.invokevirtual 69, 3) := by decide +kernel
theorem d_law_law_371 : decode b_law_law 371 = .ok (.aload_n 2, 1) := by decide +kernel
theorem d_law_law_372 : decode b_law_law 372 = .ok (.invokevirtual 72, 3) := by decide +kernel
theorem d_law_law_375 : decode b_law_law 375 = .ok (.if_icmp .eq 95, 3) := by decide +kernel
theorem d_law_law_378 : decode b_law_law 378 = .ok (.iconst 0, 1) := by decide +kernel
theorem d_law_law_379 : decode b_law_law 379 = .ok (.ireturn, 1) := by decide +kernel
theorem d_law_law_380 : decode b_law_law 380 = .ok (.aload_n 1, 1) := by decide +kernel
theorem d_law_law_381 : decode b_law_law 381 = .ok (.aload_n 0, 1) := by decide +kernel
theorem d_law_law_382 : decode b_law_law 382 = .ok (.iload_n 3, 1) := by decide +kernel
theorem d_law_law_383 : decode b_law_law 383 = .ok (.iconst 1, 1) := by decide +kernel
theorem d_law_law_384 : decode b_law_law 384 = .ok (.iadd, 1) := by decide +kernel
theorem d_law_law_385 : decode b_law_law 385 = .ok (.iaload, 1) := by decide +kernel
theorem d_law_law_386 : decode b_law_law 386 = .ok (.invokevirtual 73, 3) := by decide +kernel
theorem d_law_law_389 : decode b_law_law 389 = .ok (.aload_n 2, 1) := by decide +kernel
theorem d_law_law_390 : decode b_law_law 390 = .ok (.aload_n 0, 1) := by decide +kernel
theorem d_law_law_391 : decode b_law_law 391 = .ok (.iload_n 3, 1) := by decide +kernel
theorem d_law_law_392 : decode b_law_law 392 = .ok (.iconst 1, 1) := by decide +kernel
theorem d_law_law_393 : decode b_law_law 393 = .ok (.iadd, 1) := by decide +kernel
theorem d_law_law_394 : decode b_law_law 394 = .ok (.iaload, 1) := by decide +kernel
theorem d_law_law_395 : decode b_law_law 395 = .ok (.invokevirtual 76, 3) := by decide +kernel
theorem d_law_law_398 : decode b_law_law 398 = .ok (.lcmp, 1) := by decide +kernel
theorem d_law_law_399 : decode b_law_law 399 = .ok (.ifCond .eq 71, 3) := by decide +kernel
theorem d_law_law_402 : decode b_law_law 402 = .ok (.iconst 0, 1) := by decide +kernel
theorem d_law_law_403 : decode b_law_law 403 = .ok (.ireturn, 1) := by decide +kernel
theorem d_law_law_404 : decode b_law_law 404 = .ok (.aload_n 1, 1) := by decide +kernel
theorem d_law_law_405 : decode b_law_law 405 = .ok (.aload_n 0, 1) := by decide +kernel
theorem d_law_law_406 : decode b_law_law 406 = .ok (.iload_n 3, 1) := by decide +kernel
theorem d_law_law_407 : decode b_law_law 407 = .ok (.iconst 1, 1) := by decide +kernel
theorem d_law_law_408 : decode b_law_law 408 = .ok (.iadd, 1) := by decide +kernel
theorem d_law_law_409 : decode b_law_law 409 = .ok (.iaload, 1) := by decide +kernel
theorem d_law_law_410 : decode b_law_law 410 = .ok (.aload_n 0, 1) := by decide +kernel
theorem d_law_law_411 : decode b_law_law 411 = .ok (.iload_n 3, 1) := by decide +kernel
theorem d_law_law_412 : decode b_law_law 412 = .ok (.iconst 2, 1) := by decide +kernel
theorem d_law_law_413 : decode b_law_law 413 = .ok (.iadd, 1) := by decide +kernel
theorem d_law_law_414 : decode b_law_law 414 = .ok (.iaload, 1) := by decide +kernel
theorem d_law_law_415 : decode b_law_law 415 = .ok (.invokevirtual 77, 3) := by decide +kernel
theorem d_law_law_418 : decode b_law_law 418 = .ok (.aload_n 2, 1) := by decide +kernel
theorem d_law_law_419 : decode b_law_law 419 = .ok (.aload_n 0, 1) := by decide +kernel
theorem d_law_law_420 : decode b_law_law 420 = .ok (.iload_n 3, 1) := by decide +kernel
theorem d_law_law_421 : decode b_law_law 421 = .ok (.iconst 1, 1) := by decide +kernel
theorem d_law_law_422 : decode b_law_law 422 = .ok (.iadd, 1) := by decide +kernel
theorem d_law_law_423 : decode b_law_law 423 = .ok (.iaload, 1) := by decide +kernel
theorem d_law_law_424 : decode b_law_law 424 = .ok (.aload_n 0, 1) := by decide +kernel
theorem d_law_law_425 : decode b_law_law 425 = .ok (.iload_n 3, 1) := by decide +kernel
theorem d_law_law_426 : decode b_law_law 426 = .ok (.iconst 2, 1) := by decide +kernel
theorem d_law_law_427 : decode b_law_law 427 = .ok (.iadd, 1) := by decide +kernel
theorem d_law_law_428 : decode b_law_law 428 = .ok (.iaload, 1) := by decide +kernel
theorem d_law_law_429 : decode b_law_law 429 = .ok (.invokevirtual 81, 3) := by decide +kernel
theorem d_law_law_432 : decode b_law_law 432 = .ok (.if_icmp .eq 38, 3) := by decide +kernel
theorem d_law_law_435 : decode b_law_law 435 = .ok (.iconst 0, 1) := by decide +kernel
theorem d_law_law_436 : decode b_law_law 436 = .ok (.ireturn, 1) := by decide +kernel
end
section
theorem d_law_law_437 : decode b_law_law 437 = .ok (.aload_n 1, 1) := by decide +kernel
theorem d_law_law_438 : decode b_law_law 438 = .ok (.aload_n 0, 1) := by decide +kernel
theorem d_law_law_439 : decode b_law_law 439 = .ok (.iload_n 3, 1) := by decide +kernel
theorem d_law_law_440 : decode b_law_law 440 = .ok (.iconst 1, 1) := by decide +kernel
theorem d_law_law_441 : decode b_law_law 441 = .ok (.iadd, 1) := by decide +kernel
theorem d_law_law_442 : decode b_law_law 442 = .ok (.iaload, 1) := by decide +kernel
theorem d_law_law_443 : decode b_law_law 443 = .ok (.aload_n 0, 1) := by decide +kernel
theorem d_law_law_444 : decode b_law_law 444 = .ok (.iload_n 3, 1) := by decide +kernel
theorem d_law_law_445 : decode b_law_law 445 = .ok (.iconst 2, 1) := by decide +kernel
theorem d_law_law_446 : decode b_law_law 446 = .ok (.iadd, 1) := by decide +kernel
theorem d_law_law_447 : decode b_law_law 447 = .ok (.iaload, 1) := by decide +kernel
theorem d_law_law_448 : decode b_law_law 448 = .ok (.invokevirtual 82, 3) := by decide +kernel
theorem d_law_law_451 : decode b_law_law 451 = .ok (.aload_n 2, 1) := by decide +kernel
theorem d_law_law_452 : decode b_law_law 452 = .ok (.aload_n 0, 1) := by decide +kernel
theorem d_law_law_453 : decode b_law_law 453 = .ok (.iload_n 3, 1) := by decide +kernel
theorem d_law_law_454 : decode b_law_law 454 = .ok (.iconst 1, 1) := by decide +kernel
theorem d_law_law_455 : decode b_law_law 455 = .ok (.iadd, 1) := by decide +kernel
theorem d_law_law_456 : decode b_law_law 456 = .ok (.iaload, 1) := by decide +kernel
theorem d_law_law_457 : decode b_law_law 457 = .ok (.aload_n 0, 1) := by decide +kernel
theorem d_law_law_458 : decode b_law_law 458 = .ok (.iload_n 3, 1) := by decide +kernel
theorem d_law_law_459 : decode b_law_law 459 = .ok (.iconst 2, 1) := by decide +kernel
theorem d_law_law_460 : decode b_law_law 460 = .ok (.iadd, 1) := by decide +kernel
theorem d_law_law_461 : decode b_law_law 461 = .ok (.iaload, 1) := by decide +kernel
theorem d_law_law_462 : decode b_law_law 462 = .ok (.invokevirtual 85, 3) := by decide +kernel
theorem d_law_law_465 : decode b_law_law 465 = .ok (.if_icmp .eq 5, 3) := by decide +kernel
theorem d_law_law_468 : decode b_law_law 468 = .ok (.iconst 0, 1) := by decide +kernel
theorem d_law_law_469 : decode b_law_law 469 = .ok (.ireturn, 1) := by decide +kernel
theorem d_law_law_470 : decode b_law_law 470 = .ok (.iinc 3 3, 3) := by decide +kernel
theorem d_law_law_473 : decode b_law_law 473 = .ok (.goto (-455), 3) := by decide +kernel
theorem d_law_law_476 : decode b_law_law 476 = .ok (.iconst 1, 1) := by decide +kernel
theorem d_law_law_477 : decode b_law_law 477 = .ok (.ireturn, 1) := by decide +kernel
end
section
/-! ===== lN n to 2^64: shifts, and, or, masks, one bit ===== -/
theorem wb_tb (n : Nat) : (lN n).toBitVec = BitVec.ofNat 64 n := rfl
theorem wb_inj {a b : Int64} (h : a.toBitVec = b.toBitVec) : a = b := Int64.toBitVec_inj.mp h
theorem wb_tn {n : Nat} (h : n < 2 ^ 64) : (lN n).toBitVec.toNat = n := by rw [wb_tb, BitVec.toNat_ofNat, Nat.mod_eq_of_lt h]
theorem wb_of (x : Int64) : ∃ n, n < 2 ^ 64 ∧ x = lN n := ⟨x.toBitVec.toNat, x.toBitVec.isLt, wb_inj (by rw [wb_tb]; simp)⟩
theorem wb_of32 (x : Int32) : ∃ n, n < 2 ^ 32 ∧ x = nI n := ⟨x.toBitVec.toNat, x.toBitVec.isLt, Int32.toBitVec_inj.mp (by show _ = BitVec.ofNat 32 _; simp)⟩
theorem wb_c : ∀ k, k < 64 → ((nI k).toInt64 &&& 63) = lN k := by decide +kernel
theorem wb_cu : ∀ k, k < 64 → ((nI k).toInt64.toUInt64 &&& Int64.toUInt64 63) = UInt64.ofNat k := by decide +kernel
theorem wb_sm : ∀ k, k < 64 → (BitVec.ofNat 64 k).smod 64 = BitVec.ofNat 64 k := by decide +kernel
theorem wb_pw {a b : Nat} (h : a ≤ b) : 2 ^ b = 2 ^ a * 2 ^ (b - a) := by rw [← Nat.pow_add]; congr 1; omega
theorem wb_lt2 {a b : Nat} (h : a < b) : 2 ^ a < 2 ^ b := Nat.pow_lt_pow_right (by decide) h
theorem wb_mod (n : Nat) : lN n = lN (n % 2 ^ 64) := wb_inj (by rw [wb_tb, wb_tb]; apply BitVec.eq_of_toNat_eq; rw [BitVec.toNat_ofNat, BitVec.toNat_ofNat, Nat.mod_mod])
theorem wb_shr {n k : Nat} (hn : n < 2 ^ 64) (hk : k < 64) : ((lN n).toUInt64 >>> ((nI k).toInt64.toUInt64 &&& Int64.toUInt64 63)).toInt64 = lN (n / 2 ^ k) := by
  rw [wb_cu k hk]
  apply wb_inj
  apply BitVec.eq_of_toNat_eq
  show ((lN n).toUInt64 >>> UInt64.ofNat k).toNat = (BitVec.ofNat 64 _).toNat
  have h1 : (UInt64.ofNat k).toNat = k := by
    show (BitVec.ofNat 64 k).toNat = k
    rw [BitVec.toNat_ofNat, Nat.mod_eq_of_lt (by omega)]
  have h2 : (lN n).toUInt64.toNat = n := wb_tn hn
  rw [UInt64.toNat_shiftRight, h1, h2, Nat.mod_eq_of_lt hk, Nat.shiftRight_eq_div_pow, BitVec.toNat_ofNat, Nat.mod_eq_of_lt (Nat.lt_of_le_of_lt (Nat.div_le_self _ _) hn)]
theorem wb_shl (n : Nat) {k : Nat} (hk : k < 64) : lN n <<< ((nI k).toInt64 &&& 63) = lN (n * 2 ^ k) := by
  rw [wb_c k hk]
  apply wb_inj
  rw [Int64.toBitVec_shiftLeft, wb_tb, wb_tb, wb_tb, wb_sm k hk]
  apply BitVec.eq_of_toNat_eq
  rw [BitVec.shiftLeft_eq', BitVec.toNat_shiftLeft, BitVec.toNat_ofNat, BitVec.toNat_ofNat, BitVec.toNat_ofNat, Nat.mod_eq_of_lt (show k < 2 ^ 64 by omega), Nat.shiftLeft_eq, Nat.mul_mod, Nat.mod_mod, ← Nat.mul_mod]
theorem wb_and {a b : Nat} (ha : a < 2 ^ 64) (hb : b < 2 ^ 64) : lN a &&& lN b = lN (a &&& b) := by
  apply wb_inj
  rw [Int64.toBitVec_and, wb_tb, wb_tb, wb_tb]
  apply BitVec.eq_of_toNat_eq
  rw [BitVec.toNat_and, BitVec.toNat_ofNat, BitVec.toNat_ofNat, BitVec.toNat_ofNat, Nat.mod_eq_of_lt ha, Nat.mod_eq_of_lt hb, Nat.mod_eq_of_lt (Nat.and_lt_two_pow _ hb)]
theorem wb_or {a b : Nat} (ha : a < 2 ^ 64) (hb : b < 2 ^ 64) : lN a ||| lN b = lN (a ||| b) := by
  apply wb_inj
  rw [Int64.toBitVec_or, wb_tb, wb_tb, wb_tb]
  apply BitVec.eq_of_toNat_eq
  rw [BitVec.toNat_or, BitVec.toNat_ofNat, BitVec.toNat_ofNat, BitVec.toNat_ofNat, Nat.mod_eq_of_lt ha, Nat.mod_eq_of_lt hb, Nat.mod_eq_of_lt (Nat.or_lt_two_pow ha hb)]
theorem wb_mask {n k : Nat} (hn : n < 2 ^ 64) (hk : k < 64) : lN n &&& lN (2 ^ k - 1) = lN (n % 2 ^ k) := by
  rw [wb_and hn (by have := wb_lt2 hk; omega), Nat.and_two_pow_sub_one_eq_mod]
theorem wb_a1 {n : Nat} (hn : n < 2 ^ 64) : lN n &&& 1 = lN (n % 2) := wb_mask (k := 1) hn (by decide)
theorem wb_bit {n k : Nat} (hn : n < 2 ^ 64) (hk : k < 64) : ((lN n).toUInt64 >>> ((nI k).toInt64.toUInt64 &&& Int64.toUInt64 63)).toInt64 &&& 1 = lN (n / 2 ^ k % 2) := by
  rw [wb_shr hn hk, wb_a1 (Nat.lt_of_le_of_lt (Nat.div_le_self _ _) hn)]
/-! bits of longs and of rows of longs -/
def zushr (x : Int64) (y : Int32) : Int64 := (x.toUInt64 >>> (y.toInt64.toUInt64 &&& Int64.toUInt64 63)).toInt64
def zshl (x : Int64) (y : Int32) : Int64 := x <<< (y.toInt64 &&& 63)
def zshr (x : Int64) (y : Int32) : Int64 := x >>> (y.toInt64 &&& 63)
def ziushr (x y : Int32) : Int32 := (x.toUInt32 >>> (y.toUInt32 &&& Int32.toUInt32 31)).toInt32
def tb (x : Int64) (j : Nat) : Bool := x.toBitVec.getLsbD j
theorem tb_ext {x y : Int64} (h : ∀ j, j < 64 → tb x j = tb y j) : x = y := wb_inj (BitVec.eq_of_getLsbD_eq h)
theorem tb_big {x : Int64} {j : Nat} (h : 64 ≤ j) : tb x j = false := BitVec.getLsbD_of_ge _ _ h
theorem tb_and (x y : Int64) (j : Nat) : tb (x &&& y) j = (tb x j && tb y j) := by unfold tb; rw [Int64.toBitVec_and, BitVec.getLsbD_and]
theorem tb_or (x y : Int64) (j : Nat) : tb (x ||| y) j = (tb x j || tb y j) := by unfold tb; rw [Int64.toBitVec_or, BitVec.getLsbD_or]
theorem tb_xor (x y : Int64) (j : Nat) : tb (x ^^^ y) j = (tb x j ^^ tb y j) := by unfold tb; rw [Int64.toBitVec_xor, BitVec.getLsbD_xor]
theorem tb_lN (n j : Nat) : tb (lN n) j = (decide (j < 64) && n.testBit j) := by unfold tb; rw [wb_tb, BitVec.getLsbD_ofNat]
theorem tb_0 (j : Nat) : tb 0 j = false := by
  unfold tb
  show (0#64).getLsbD j = false
  simp
theorem tb_m1 (j : Nat) : tb (-1) j = decide (j < 64) := by
  unfold tb
  rw [show (-1 : Int64).toBitVec = BitVec.allOnes 64 from by decide +kernel, BitVec.getLsbD_allOnes]
theorem tb_ushr (x : Int64) {k : Nat} (hk : k < 64) (j : Nat) : tb (zushr x (nI k)) j = tb x (k + j) := by
  obtain ⟨n, hn, rfl⟩ := wb_of x
  unfold zushr
  rw [wb_shr hn hk, tb_lN, tb_lN, Nat.testBit_div_two_pow, Nat.add_comm k j]
  by_cases h : j + k < 64
  · rw [decide_eq_true h, decide_eq_true (show j < 64 by omega)]
  · rw [Nat.testBit_lt_two_pow (x := n) (i := j + k) (Nat.lt_of_lt_of_le hn (Nat.pow_le_pow_right (by decide) (by omega))), Bool.and_false, Bool.and_false]
theorem tb_shl (x : Int64) {k : Nat} (hk : k < 64) (j : Nat) : tb (zshl x (nI k)) j = (decide (j < 64) && (decide (k ≤ j) && tb x (j - k))) := by
  obtain ⟨n, hn, rfl⟩ := wb_of x
  unfold zshl
  rw [wb_shl n hk, tb_lN, tb_lN, Nat.testBit_mul_two_pow]
  by_cases h : j < 64
  · rw [decide_eq_true h, decide_eq_true (show j - k < 64 by omega)]; simp
  · rw [decide_eq_false h]; simp
theorem tb_toInt64 (v : Int32) {j : Nat} (hj : j < 32) : tb v.toInt64 j = v.toBitVec.getLsbD j := by
  unfold tb
  rw [Int32.toBitVec_toInt64, BitVec.getLsbD_signExtend, decide_eq_true (show j < 64 by omega), if_pos hj, Bool.true_and]
/-- a row of longs as a row of bits -/
def wbit (wd : Nat → Int64) (i : Nat) : Bool := tb (wd (i / 64)) (i % 64)
def p_room (b w : Nat) : Bool := decide (0 < w ∧ w ≤ 64 ∧ b + w ≤ 160000)
def p_mask (w : Nat) : Int64 := zushr (-1) (nI (64 - w))
theorem tb_mask {w : Nat} (h0 : 0 < w) (hw : w ≤ 64) (j : Nat) : tb (p_mask w) j = decide (j < w) := by
  unfold p_mask
  rw [tb_ushr _ (by omega), tb_m1]
  exact decide_eq_decide.mpr (by omega)
def p_bitsIn (wd : Nat → Int64) (b w : Nat) : Int64 :=
  if p_room b w = true then
    (if b % 64 + w ≤ 64 then zushr (wd (b / 64)) (nI (b % 64)) &&& p_mask w
     else (zushr (wd (b / 64)) (nI (b % 64)) ||| zshl (wd (b / 64 + 1)) (nI (64 - b % 64))) &&& p_mask w)
  else 0
theorem tb_bitsIn {wd : Nat → Int64} {b w : Nat} (hr : 0 < w ∧ w ≤ 64 ∧ b + w ≤ 160000) (j : Nat) : tb (p_bitsIn wd b w) j = (decide (j < w) && wbit wd (b + j)) := by
  have hp : p_room b w = true := decide_eq_true hr
  unfold p_bitsIn
  rw [if_pos hp]
  obtain ⟨h0, h1, h2⟩ := hr
  have hs : b % 64 < 64 := Nat.mod_lt _ (by decide)
  by_cases hg : b % 64 + w ≤ 64
  · rw [if_pos hg, tb_and, tb_mask h0 h1, tb_ushr _ hs]
    by_cases hj : j < w
    · unfold wbit
      rw [show (b + j) / 64 = b / 64 by omega, show (b + j) % 64 = b % 64 + j by omega, decide_eq_true hj, Bool.and_true, Bool.true_and]
    · rw [decide_eq_false hj, Bool.and_false, Bool.false_and]
  · rw [if_neg hg, tb_and, tb_or, tb_mask h0 h1, tb_ushr _ hs, tb_shl _ (by omega)]
    by_cases hj : j < w
    · unfold wbit
      by_cases hq : b % 64 + j < 64
      · rw [show (b + j) / 64 = b / 64 by omega, show (b + j) % 64 = b % 64 + j by omega, decide_eq_true hj, decide_eq_false (show ¬ (64 - b % 64 ≤ j) by omega)]
        simp
      · rw [show (b + j) / 64 = b / 64 + 1 by omega, show (b + j) % 64 = j - (64 - b % 64) by omega, tb_big (x := wd (b / 64)) (show 64 ≤ b % 64 + j by omega), decide_eq_true hj, decide_eq_true (show j < 64 by omega), decide_eq_true (show 64 - b % 64 ≤ j by omega)]
        simp
    · rw [decide_eq_false hj, Bool.and_false, Bool.false_and]
def p_sb1 (wd : Nat → Int64) (b w : Nat) (v : Int64) : Nat → Int64 := vp_updL wd (b / 64) (((wd (b / 64)) &&& ((zshl (p_mask w) (nI (b % 64))) ^^^ (-1))) ||| (zshl (v &&& p_mask w) (nI (b % 64))))
def p_sb2 (wd : Nat → Int64) (b w : Nat) (v : Int64) : Nat → Int64 := vp_updL wd (b / 64 + 1) (((wd (b / 64 + 1)) &&& ((zushr (p_mask w) (nI (64 - b % 64))) ^^^ (-1))) ||| (zushr (v &&& p_mask w) (nI (64 - b % 64))))
def p_setBits (wd : Nat → Int64) (b w : Nat) (v : Int64) : Nat → Int64 :=
  if p_room b w = true then (if b % 64 + w ≤ 64 then p_sb1 wd b w v else p_sb2 (p_sb1 wd b w v) b w v) else wd
theorem wbit_sb1 {wd : Nat → Int64} {b w : Nat} {v : Int64} (hr : 0 < w ∧ w ≤ 64 ∧ b + w ≤ 160000) (i : Nat) : wbit (p_sb1 wd b w v) i = if i / 64 = b / 64 ∧ b ≤ i ∧ i < b + w then tb v (i - b) else wbit wd i := by
  obtain ⟨h0, h1, h2⟩ := hr
  have hs : b % 64 < 64 := Nat.mod_lt _ (by decide)
  unfold wbit p_sb1 vp_updL
  by_cases hq : i / 64 = b / 64
  · rw [if_pos hq, tb_or, tb_and, tb_xor, tb_shl _ hs, tb_shl _ hs, tb_and, tb_mask h0 h1, tb_m1, decide_eq_true (show i % 64 < 64 by omega), hq]
    by_cases hz : b ≤ i ∧ i < b + w
    · rw [if_pos ⟨rfl, hz⟩, decide_eq_true (show b % 64 ≤ i % 64 by omega), decide_eq_true (show i % 64 - b % 64 < w by omega), show i % 64 - b % 64 = i - b by omega]
      simp
    · rw [if_neg (fun z => hz z.2)]
      by_cases h3 : b % 64 ≤ i % 64
      · rw [decide_eq_true h3, decide_eq_false (show ¬ (i % 64 - b % 64 < w) by omega)]
        simp
      · rw [decide_eq_false h3]
        simp
  · rw [if_neg hq, if_neg (fun z => hq z.1)]
theorem wbit_sb2 {wd : Nat → Int64} {b w : Nat} {v : Int64} (hr : 0 < w ∧ w ≤ 64 ∧ b + w ≤ 160000) (hg : ¬ b % 64 + w ≤ 64) (i : Nat) : wbit (p_sb2 wd b w v) i = if i / 64 = b / 64 + 1 ∧ i < b + w then tb v (i - b) else wbit wd i := by
  obtain ⟨h0, h1, h2⟩ := hr
  have hs : b % 64 < 64 := Nat.mod_lt _ (by decide)
  unfold wbit p_sb2 vp_updL
  by_cases hq : i / 64 = b / 64 + 1
  · rw [if_pos hq, tb_or, tb_and, tb_xor, tb_ushr _ (by omega), tb_ushr _ (by omega), tb_and, tb_mask h0 h1, tb_m1, decide_eq_true (show i % 64 < 64 by omega), hq]
    by_cases hz : i < b + w
    · rw [if_pos ⟨rfl, hz⟩, decide_eq_true (show 64 - b % 64 + i % 64 < w by omega), show 64 - b % 64 + i % 64 = i - b by omega]
      simp
    · rw [if_neg (fun z => hz z.2), decide_eq_false (show ¬ (64 - b % 64 + i % 64 < w) by omega)]
      simp
  · rw [if_neg hq, if_neg (fun z => hq z.1)]
theorem wbit_setBits {wd : Nat → Int64} {b w : Nat} {v : Int64} (hr : 0 < w ∧ w ≤ 64 ∧ b + w ≤ 160000) (i : Nat) : wbit (p_setBits wd b w v) i = if b ≤ i ∧ i < b + w then tb v (i - b) else wbit wd i := by
  have hp : p_room b w = true := decide_eq_true hr
  unfold p_setBits
  rw [if_pos hp]
  by_cases hg : b % 64 + w ≤ 64
  · rw [if_pos hg, wbit_sb1 hr]
    by_cases hz : b ≤ i ∧ i < b + w
    · rw [if_pos ⟨by omega, hz⟩, if_pos hz]
    · rw [if_neg (fun z => hz z.2), if_neg hz]
  · rw [if_neg hg, wbit_sb2 hr hg, wbit_sb1 hr]
    by_cases hz : b ≤ i ∧ i < b + w
    · rw [if_pos hz]
      by_cases h3 : i / 64 = b / 64 + 1
      · rw [if_pos ⟨h3, hz.2⟩]
      · rw [if_neg (fun z => h3 z.1), if_pos ⟨by omega, hz⟩]
    · rw [if_neg (fun z => hz ⟨by omega, z.2⟩), if_neg (fun z => hz z.2), if_neg hz]
theorem p_setBits_0 {wd : Nat → Int64} {b w : Nat} {v : Int64} (h : ¬ (0 < w ∧ w ≤ 64 ∧ b + w ≤ 160000)) : p_setBits wd b w v = wd := by
  unfold p_setBits
  rw [if_neg (by rw [show p_room b w = false from decide_eq_false h]; decide)]
theorem p_bitsIn_0 {wd : Nat → Int64} {b w : Nat} (h : ¬ (0 < w ∧ w ≤ 64 ∧ b + w ≤ 160000)) : p_bitsIn wd b w = 0 := by
  unfold p_bitsIn
  rw [if_neg (by rw [show p_room b w = false from decide_eq_false h]; decide)]
/-- a byte of such a row -/
def gB (wd : Nat → Int64) (k : Nat) : Nat := (p_bitsIn wd (k * 8) 8).toBitVec.toNat
theorem gB_bit {wd : Nat → Int64} {k : Nat} (hk : k < 20000) (j : Nat) : (gB wd k).testBit j = (decide (j < 8) && wbit wd (k * 8 + j)) := tb_bitsIn (wd := wd) (b := k * 8) (w := 8) ⟨by decide, by decide, by omega⟩ j
theorem gB_lt {wd : Nat → Int64} {k : Nat} (hk : k < 20000) : gB wd k < 256 := Nat.lt_pow_two_of_testBit (n := 8) _ (fun i hi => by rw [gB_bit hk, decide_eq_false (by omega), Bool.false_and])
theorem lN_self (x : Int64) : x = lN x.toBitVec.toNat := wb_inj (by rw [wb_tb]; simp)
theorem gB_int (wd : Nat → Int64) (k : Nat) : (p_bitsIn wd (k * 8) 8).toInt32 = nI (gB wd k) := by
  rw [lN_self (p_bitsIn wd (k * 8) 8), lN_i]
  rfl
/-- the lowest eight bits of an int -/
def low8 (v : Int32) : Nat := v.toBitVec.toNat % 256
theorem low8_lt (v : Int32) : low8 v < 256 := Nat.mod_lt _ (by decide)
theorem low8_nI {n : Nat} (h : n < 2 ^ 32) : low8 (nI n) = n % 256 := by unfold low8; rw [pk_tn h]
def p_chg (wd : Nat → Int64) (k : Nat) (v : Int32) : Nat → Int64 := p_setBits wd (k * 8) 8 v.toInt64
theorem gB_chg {wd : Nat → Int64} {k : Nat} {v : Int32} (hk : k < 20000) {j : Nat} (hj : j < 20000) : gB (p_chg wd k v) j = if j = k then low8 v else gB wd j := by
  apply Nat.eq_of_testBit_eq
  intro i
  rw [gB_bit hj]
  unfold p_chg
  rw [wbit_setBits ⟨by decide, by decide, by omega⟩]
  by_cases hi : i < 8
  · rw [decide_eq_true hi, Bool.true_and]
    by_cases hjk : j = k
    · subst hjk
      rw [if_pos (by omega), if_pos rfl, show j * 8 + i - j * 8 = i by omega, tb_toInt64 v (by omega)]
      unfold low8
      rw [show (256 : Nat) = 2 ^ 8 from rfl, Nat.testBit_mod_two_pow, decide_eq_true hi, Bool.true_and]
      rfl
    · rw [if_neg (by omega), if_neg hjk, gB_bit hj, decide_eq_true hi, Bool.true_and]
  · rw [decide_eq_false hi, Bool.false_and]
    by_cases hjk : j = k
    · rw [if_pos hjk]
      exact (Nat.testBit_lt_two_pow (Nat.lt_of_lt_of_le (low8_lt v) (show 256 ≤ 2 ^ i from Nat.le_trans (by decide) (Nat.pow_le_pow_right (n := 2) (by decide) (show 8 ≤ i by omega))))).symm
    · rw [if_neg hjk, gB_bit hj, decide_eq_false hi, Bool.false_and]
end
section
/-! base rows: contracts in one form, and the rows of the walk in it -/
def zN (U : State) : Prop := ∀ w ∈ zNest, va_Nw w U
theorem zN.warm {s U : State} (hW : s.WarmedH U.vm) (h : zN s) : zN U := zNest_warm hW h
theorem zN.same {s U : State} (h : s.vm = U.vm) (hN : zN s) : zN U := fun w hw => va_Nw.same (zNest_on w hw) h (hN w hw)
def zK (D : va_G) (tys : List (ClassId × FieldType)) (U : State) : Prop := va_K D classes tys U ∧ zN U
/-- what holds at a method's entry and stays -/
def zC (p : Program) (s : State) (m : MethodId) (meth : Method) (c : Code) (cc : ByteArray) (nL : Nat) (rt : Option FieldType) (args : Array Value) (own nm : String) (D : va_G) (tys : List (ClassId × FieldType)) (A : Nat → Prop) : Prop :=
  p.tables.exec = Jvm.exec ∧ c.code = cc ∧ c.maxLocals = nL ∧ s.vm.findClass own = some m.cls ∧ (∀ w ∈ zW, w.before args s = true) ∧ va_K D classes tys s ∧ zN s ∧ meth.sig.returnType = rt ∧ meth.locks = false ∧ (∀ q : Nat, s.heap.size ≤ q → A q) ∧ meth.name = nm
def zQ (D : va_G) (post : Option Value → va_W → Prop) (A : Nat → Prop) : Array Value → State → Outcome → State → Prop := fun _ st oc t =>
  (∃ (rv : Option Value) (w1 : va_W), oc = .returned rv ∧ post rv w1 ∧ va_P D classes w1 t.heap ∧ va_D A w1) ∧ va_F A st t
def zEq (rv : Option Value) (w : va_W) : Option Value → va_W → Prop := fun r w1 => r = rv ∧ w1 = w
def zPre (D : va_G) (tys : List (ClassId × FieldType)) (wc : va_W) (sz : Nat) (U : State) : Prop := U.heap.size = sz ∧ va_P D classes wc U.heap ∧ zK D tys U ∧ va_D (fun _ => True) wc
/-- a method's contract: from the cells wc it comes to an answer and cells with 'post' -/
def Ct (l : Launch) (D : va_G) (tys : List (ClassId × FieldType)) (y : MethodName) (cc : ByteArray) (nL : Nat) (rt : Option FieldType) (fr lo ce sl : Nat) (av : List Value) (wc : va_W) (post : Option Value → va_W → Prop) : Prop :=
  ∀ sz : Nat, Met l y (Cond.code y cc nL rt :: zW) { frames := fr, cells := ce, slots := sl, locals := lo } (va_Pc av (zPre D tys wc sz)) (zQ D post (va_A wc sz)) ce sl (va_A wc sz)
theorem Ct.ofW {l : Launch} {D : va_G} {tys : List (ClassId × FieldType)} {y : MethodName} {cc : ByteArray} {nL : Nat} {rt : Option FieldType} {fr lo ce sl : Nat} {av : List Value} {wc : va_W} {post : Option Value → va_W → Prop}
    (hy : plainName y.cls = true) (hn : (lg_sl av).length ≤ nL)
    (body : ∀ (p : Program) (e : Env) (s : State) (m : MethodId) (below : List Frame) (meth : Method) (c : Code) (A : Nat → Prop) (ls : Array Slot), zC p s m meth c cc nL rt av.toArray y.cls y.name D tys A → va_P D classes wc s.heap → va_D A wc → va_S A s.heap s.heap [] → lv_has ls nL (lv_args 0 av) →
      W p l e { frames := fr, cells := ce, slots := sl, locals := lo } s m av.toArray below meth c s.heap [] 0 0 (MQ below (zQ D post A) av.toArray s ce sl A) (F0 m 0 ls [])) : Ct l D tys y cc nL rt fr lo ce sl av wc post := by
  intro sz
  refine Met.ofW (cc := cc) (maxL := nL) (ret := rt) hy rfl ?_
  intro p e s m args below meth c s₁ B hml hv
  obtain ⟨rfl, hsz, hP, hK, hD0⟩ := hv
  have hts := atoms_spec (ws := Cond.code y cc nL rt :: zW) B.pre
  subst hsz
  have hl := lv_entry av (n := nL) hn
  rw [lg_entry_eq]
  exact body p e s m below meth c (va_A wc s.heap.size) _ ⟨B.exec, B.bytes, hml, findClass_of_methodNamed B.named, fun w hw => hts w (List.mem_cons_of_mem _ hw), hK.1, hK.2, B.returns, B.notSynchronized, fun q h => Or.inr h, (name_of_methodNamed B.named B.method).1⟩ hP hD0.self va_S.rf hl
theorem zPre.blind {D : va_G} {tys : List (ClassId × FieldType)} {av : List Value} {wc : va_W} {sz : Nat} : FrameBlind (va_Pc av (zPre D tys wc sz)) := fun a U g mk q => by
  obtain ⟨q0, q1, qP, qK, qD⟩ := q
  exact ⟨q0, q1, qP, ⟨va_K.moved (u := U) (U := U.calling g mk a) (Vm.Alike.refl U.vm) qK.1, zN.same (s := U) (U := U.calling g mk a) rfl qK.2⟩, qD⟩
section ZB
variable {p : Program} {l : Launch} {e : Env} {R : Room} {s : State} {m : MethodId} {args : Array Value} {below : List Frame} {meth : Method} {c : Code} {H : Heap} {locs : List Loc} {cells slots : Nat} {Q : State → Prop}
variable {cc : ByteArray} {pc : Nat} {ls : Array Slot} {rest st0 : List Value} {D : va_G} {A : Nat → Prop} {tys : List (ClassId × FieldType)} {ws wc wr w2 : va_W} {H0 : Heap} {own : String} {nL : Nat}
theorem zPre.at (hK : va_K D classes tys s) (hN : zN s) (hPc : va_P D classes wc H) (hDc : va_D A wc) (av : List Value) : ∀ U : State, U.heap = H → s.WarmedH U.vm → va_Pc av (zPre D tys wc H.size) av.toArray U :=
  fun U hU hW => ⟨rfl, by rw [hU], by rw [hU]; exact hPc, ⟨va_K.moved hW.alike hK, zN.warm hW hN⟩, hDc.weaken (fun _ _ _ _ => trivial)⟩
/-- behind a call -/
theorem z_call {mc ms : Nat} {post : Option Value → va_W → Prop} {a : Array Value} (hr : va_Run p l e R s m args below meth c H locs cells slots mc ms (F0 m pc ls st0) rest (zQ D post (va_A wc H.size) a) (va_A wc H.size))
    (hP : va_P D classes ws H) (hD : va_D A ws) (hS : va_S A H0 H locs) (hA : ∀ q, H0.size ≤ q → A q) (isC isR : List Nat) (hC : isC.map (fun i => ws[i]?) = wc.map some) (hR : isR.map (fun i => ws[i]?) = wr.map some) (hn : va_nd isR = true) (hdis : ∀ i ∈ isR, i ∉ isC)
    (kk : ∀ (rv : Option Value) (w1 : va_W) (H1 : Heap) (locs1 : List Loc), post rv w1 → va_P D classes (wr ++ w1) H1 → va_D A (wr ++ w1) → va_S A H0 H1 locs1 → W p l e R s m args below meth c H1 locs1 (cells + mc) (slots + ms) Q (F0 m (pc + 3) ls (rv.toList ++ rest))) :
    W p l e R s m args below meth c H locs cells slots Q (F0 m pc ls st0) := by
  have hF := va_free (wc := wc) hD hS hA isC hC
  intro T hT X
  obtain ⟨v, st₀, t, T', L, h0, X', hL, e1, e2, ⟨⟨rv, w1, hv, hp, hP1, hD1⟩, hz, hk⟩, st⟩ := hr T hT X
  cases hv
  rw [h0] at hz hk
  obtain ⟨hP2, hD2⟩ := va_join (wr := wr) (w1 := w1) (H1 := T'.heap) hP hD isC isR hC hR hn hdis (fun q h1 h2 => by rw [e1]; exact hk q h1 h2) hF (by rw [e1]; exact hP1) hD1
  obtain ⟨t2, a1, b1⟩ := kk v w1 T'.heap (locs ++ L) hp hP2 hD2
    ⟨Nat.le_trans hS.1 (by rw [e1]; exact hz), fun q h1 h2 => by rw [e1, hk q (Nat.lt_of_lt_of_le h1 hS.1) (fun z => h2 (hF q z))]; exact hS.2.1 q h1 h2, fun q hq => by
      rcases List.mem_append.mp hq with h | h
      · exact hS.2.2 q h
      · exact hF _ (hL q h)⟩ T' rfl X'
  exact ⟨t2, st t2 a1, b1⟩
theorem zP.perm {w : va_W} (hP : va_P D classes w H) (hD : va_D A w) (is : List Nat) (hn : va_nd is = true) (h : is.map (fun i => w[i]?) = w2.map some) : va_P D classes w2 H ∧ va_D A w2 := by
  refine ⟨fun k q hq => ?_, hD.sub is hn h⟩
  have h1 : (is.map (fun i => w[i]?))[k]? = some (some q) := by rw [h, List.getElem?_map, hq]; rfl
  rw [List.getElem?_map] at h1
  cases hi : is[k]? with
  | none => rw [hi] at h1; cases h1
  | some i => rw [hi] at h1; exact hP i q (Option.some.inj h1)
/-- behind a call whose answer and cells are told -/
theorem z_callE {mc ms : Nat} {rv : Option Value} {w1 : va_W} {a : Array Value} (hr : va_Run p l e R s m args below meth c H locs cells slots mc ms (F0 m pc ls st0) rest (zQ D (zEq rv w1) (va_A wc H.size) a) (va_A wc H.size))
    (hP : va_P D classes ws H) (hD : va_D A ws) (hS : va_S A H0 H locs) (hA : ∀ q, H0.size ≤ q → A q) (isC isR isP : List Nat) (hC : isC.map (fun i => ws[i]?) = wc.map some) (hR : isR.map (fun i => ws[i]?) = wr.map some) (hn : va_nd isR = true) (hdis : ∀ i ∈ isR, i ∉ isC)
    (hpn : va_nd isP = true) (hp : isP.map (fun i => (wr ++ w1)[i]?) = w2.map some)
    (kk : ∀ (H1 : Heap) (locs1 : List Loc), va_P D classes w2 H1 → va_D A w2 → va_S A H0 H1 locs1 → W p l e R s m args below meth c H1 locs1 (cells + mc) (slots + ms) Q (F0 m (pc + 3) ls (rv.toList ++ rest))) :
    W p l e R s m args below meth c H locs cells slots Q (F0 m pc ls st0) := by
  refine z_call hr hP hD hS hA isC isR hC hR hn hdis (fun rv1 w3 H1 locs1 hq hP1 hD1 hS1 => ?_)
  obtain ⟨rfl, rfl⟩ := hq
  obtain ⟨hP2, hD2⟩ := zP.perm hP1 hD1 isP hpn hp
  exact kk H1 locs1 hP2 hD2 hS1
theorem zP.cut (hP : va_P D classes ws H) (isC : List Nat) (hC : isC.map (fun i => ws[i]?) = wc.map some) : va_P D classes wc H := by
  intro k q hq
  have h1 : (isC.map (fun i => ws[i]?))[k]? = some (some q) := by rw [hC, List.getElem?_map, hq]; rfl
  rw [List.getElem?_map] at h1
  cases hi : isC[k]? with
  | none => rw [hi] at h1; cases h1
  | some i => rw [hi] at h1; exact hP i q (Option.some.inj h1)
/-- the words of a call of an instance method -/
def zVW (own : String) (idx : Nat) (y : MethodName) (cy : ByteArray) (nLy : Nat) (rt : Option FieldType) (n : Nat) : Prop :=
  Cond.code y cy nLy rt ∈ zW ∧ Cond.initialized y.cls ∈ zW ∧ Cond.methodLink own idx y ∈ zW ∧ Cond.instanceMethod y ∈ zW ∧ Cond.selects y.cls y y ∈ zW ∧ y.cls ≠ "java/lang/invoke/MethodHandle" ∧ y.cls ≠ "java/lang/invoke/VarHandle" ∧ (parseMethodDescriptor y.desc).map (fun d => d.parameters.length) = some n
def zSW (own : String) (idx : Nat) (y : MethodName) (cy : ByteArray) (nLy : Nat) (rt : Option FieldType) (n : Nat) : Prop :=
  Cond.code y cy nLy rt ∈ zW ∧ Cond.initialized y.cls ∈ zW ∧ Cond.methodLink own idx y ∈ zW ∧ Cond.static y ∈ zW ∧ y.cls ≠ "java/lang/invoke/MethodHandle" ∧ y.cls ≠ "java/lang/invoke/VarHandle" ∧ (parseMethodDescriptor y.desc).map (fun d => d.parameters.length) = some n
def zIW (own : String) (idx : Nat) (y : MethodName) (cy : ByteArray) (nLy : Nat) (n : Nat) : Prop :=
  Cond.code y cy nLy none ∈ zW ∧ Cond.initialized y.cls ∈ zW ∧ Cond.methodLink own idx y ∈ zW ∧ Cond.instanceMethod y ∈ zW ∧ y.name = "<init>" ∧ y.cls ≠ "java/lang/invoke/MethodHandle" ∧ y.cls ≠ "java/lang/invoke/VarHandle" ∧ (parseMethodDescriptor y.desc).map (fun d => d.parameters.length) = some n
def zNW (own : String) (idx : Nat) (y : MethodName) (host : String) (cy : ByteArray) (nLy : Nat) (rt : Option FieldType) (n : Nat) : Prop :=
  Cond.code y cy nLy rt ∈ zW ∧ Cond.initialized y.cls ∈ zW ∧ Cond.methodLinkNest own idx y host ∈ zNest ∧ Cond.static y ∈ zW ∧ y.cls ≠ "java/lang/invoke/MethodHandle" ∧ y.cls ≠ "java/lang/invoke/VarHandle" ∧ (parseMethodDescriptor y.desc).map (fun d => d.parameters.length) = some n
theorem zGood {y : MethodName} {cy : ByteArray} {nLy : Nat} {rt : Option FieldType} (h : Cond.code y cy nLy rt ∈ zW) : GoodIn zW (Cond.code y cy nLy rt :: zW) := fun w hw => by
  rcases List.mem_cons.mp hw with rfl | hw
  · exact ⟨h, good_of_word (zW_good _ h)⟩
  · exact ⟨hw, good_of_word (zW_good _ hw)⟩
variable {y : MethodName} {cy : ByteArray} {nLy n fr lo ce sl index : Nat} {rt : Option FieldType} {post : Option Value → va_W → Prop} {As : List Value} {b : Nat}
theorem z_runV (hx : p.tables.exec = Jvm.exec) (hb : c.code = cc) (hml : c.maxLocals = nL) (hown : s.vm.findClass own = some m.cls) (hts : ∀ w ∈ zW, w.before args s = true) (hK : va_K D classes tys s) (hN : zN s)
    (hM : Ct l D tys y cy nLy rt fr lo ce sl (.ref b :: As) wc post) (hw : zVW own index y cy nLy rt n) (hPc : va_P D classes wc H) (hDc : va_D A wc) {ci : Nat} {fs : List Value} {T : u_T} {N : Nat} (q0 : Nat) (he : wc[q0]? = some (b, .inr (ci, fs))) (hc : classes[ci]? = some (y.cls, T, N))
    (hn : As.length = n) (hsize : ls.size = nL) (hstack : st0 = As.reverse ++ .ref b :: rest) (hW : (rest.map fun v => v.category).sum ≤ 8) (hdg : decode cc pc = .ok (.invokevirtual index, 3)) (hR : fr + 1 ≤ R.frames ∧ 8 + (nLy + 11) + lo ≤ R.locals) (hf : cells + ce ≤ R.cells ∧ slots + sl ≤ R.slots) :
    va_Run p l e R s m args below meth c H locs cells slots ce sl (F0 m pc ls st0) rest (zQ D post (va_A wc H.size) (Value.ref b :: As).toArray) (va_A wc H.size) := by
  obtain ⟨w1, w2, w3, w4, w5, w6, w7, w8⟩ := hw
  refine va_runV (As := As) (rest := rest) (C := y.cls) ⟨hx, hb, hml, hown, hts⟩ (hM H.size) ⟨callB_of n hts (zGood w1) rfl rfl rfl (hts _ w2) (hts _ w3) ⟨w6, w7, w8⟩ hR, hts _ w4, hts _ w5⟩ ⟨zPre.blind, ?_, zPre.at hK hN hPc hDc _⟩ rfl hn hsize hstack (lv_room hW) hdg hf
  exact va_recv hK hPc (ci := ci) (q0 := q0) hc he
theorem z_runS (hx : p.tables.exec = Jvm.exec) (hb : c.code = cc) (hml : c.maxLocals = nL) (hown : s.vm.findClass own = some m.cls) (hts : ∀ w ∈ zW, w.before args s = true) (hK : va_K D classes tys s) (hN : zN s)
    (hM : Ct l D tys y cy nLy rt fr lo ce sl As wc post) (hw : zSW own index y cy nLy rt n) (hPc : va_P D classes wc H) (hDc : va_D A wc)
    (hn : As.length = n) (hsize : ls.size = nL) (hstack : st0 = As.reverse ++ rest) (hW : (rest.map fun v => v.category).sum ≤ 8) (hdg : decode cc pc = .ok (.invokestatic index, 3)) (hR : fr + 1 ≤ R.frames ∧ 8 + (nLy + 11) + lo ≤ R.locals) (hf : cells + ce ≤ R.cells ∧ slots + sl ≤ R.slots) :
    va_Run p l e R s m args below meth c H locs cells slots ce sl (F0 m pc ls st0) rest (zQ D post (va_A wc H.size) As.toArray) (va_A wc H.size) := by
  obtain ⟨w1, w2, w3, w4, w6, w7, w8⟩ := hw
  exact va_runS (As := As) (rest := rest) ⟨hx, hb, hml, hown, hts⟩ (hM H.size) ⟨callB_of n hts (zGood w1) rfl rfl rfl (hts _ w2) (hts _ w3) ⟨w6, w7, w8⟩ hR, hts _ w4⟩ ⟨zPre.blind, zPre.at hK hN hPc hDc _⟩ rfl hn hsize hstack (lv_room hW) hdg hf
theorem z_runI (hx : p.tables.exec = Jvm.exec) (hb : c.code = cc) (hml : c.maxLocals = nL) (hown : s.vm.findClass own = some m.cls) (hts : ∀ w ∈ zW, w.before args s = true) (hK : va_K D classes tys s) (hN : zN s)
    (hM : Ct l D tys y cy nLy none fr lo ce sl (.ref b :: As) wc post) (hw : zIW own index y cy nLy n) (hPc : va_P D classes wc H) (hDc : va_D A wc)
    (hn : As.length = n) (hsize : ls.size = nL) (hstack : st0 = As.reverse ++ .ref b :: rest) (hW : (rest.map fun v => v.category).sum ≤ 8) (hdg : decode cc pc = .ok (.invokespecial index, 3)) (hR : fr + 1 ≤ R.frames ∧ 8 + (nLy + 11) + lo ≤ R.locals) (hf : cells + ce ≤ R.cells ∧ slots + sl ≤ R.slots) :
    va_Run p l e R s m args below meth c H locs cells slots ce sl (F0 m pc ls st0) rest (zQ D post (va_A wc H.size) (Value.ref b :: As).toArray) (va_A wc H.size) := by
  obtain ⟨w1, w2, w3, w4, w5, w6, w7, w8⟩ := hw
  exact va_runI (As := As) (rest := rest) ⟨hx, hb, hml, hown, hts⟩ (hM H.size) ⟨callB_of n hts (zGood w1) rfl rfl rfl (hts _ w2) (hts _ w3) ⟨w6, w7, w8⟩ hR, w5, hts _ w4⟩ ⟨zPre.blind, zPre.at hK hN hPc hDc _⟩ rfl hn hsize hstack (lv_room hW) hdg hf
theorem z_runSN (hx : p.tables.exec = Jvm.exec) (hb : c.code = cc) (hml : c.maxLocals = nL) (hown : s.vm.findClass own = some m.cls) (hts : ∀ w ∈ zW, w.before args s = true) (hK : va_K D classes tys s) (hN : zN s)
    (hM : Ct l D tys y cy nLy rt fr lo ce sl As wc post) {host : String} (hw : zNW own index y host cy nLy rt n) (hPc : va_P D classes wc H) (hDc : va_D A wc)
    (hn : As.length = n) (hsize : ls.size = nL) (hstack : st0 = As.reverse ++ rest) (hW : (rest.map fun v => v.category).sum ≤ 8) (hdg : decode cc pc = .ok (.invokestatic index, 3)) (hR : fr + 1 ≤ R.frames ∧ 8 + (nLy + 11) + lo ≤ R.locals) (hf : cells + ce ≤ R.cells ∧ slots + sl ≤ R.slots) :
    va_Run p l e R s m args below meth c H locs cells slots ce sl (F0 m pc ls st0) rest (zQ D post (va_A wc H.size) As.toArray) (va_A wc H.size) := by
  obtain ⟨w1, w2, w3, w4, w6, w7, w8⟩ := hw
  exact va_runSN (As := As) (rest := rest) ⟨hx, hb, hml, hown, hts⟩ (hM H.size) ⟨va_cnB n hts (zGood w1) rfl rfl rfl (hN _ w3) (hts _ w2) ⟨w6, w7, w8⟩ hR, hts _ w4, trivial⟩ ⟨zPre.blind, zPre.at hK hN hPc hDc _⟩ rfl hn hsize hstack (lv_room hW) hdg hf
/-- the ends -/
theorem z_iret {v : Int32} (hx : p.tables.exec = Jvm.exec) (hb : c.code = cc) (hr : meth.sig.returnType = some .int) (hlocks : meth.locks = false) (hS : va_S A s.heap H locs) (hP : va_P D classes ws H) (hD : va_D A ws) (hp : post (some (.int v)) ws) (hdg : decode cc pc = .ok (.ireturn, 1)) :
    W p l e R s m args below meth c H locs cells slots (MQ below (zQ D post A) args s cells slots A) (F0 m pc ls [.int v]) :=
  W.iret (v := v) hx hb hr (fun t ht hW => ⟨⟨_, ws, rfl, hp, by rw [ht]; exact hP, hD⟩, hS.F ht⟩) hS.2.2 hdg hlocks
theorem z_bret {v : Int32} (hx : p.tables.exec = Jvm.exec) (hb : c.code = cc) (hr : meth.sig.returnType = some .boolean) (hlocks : meth.locks = false) (hv : v = 0 ∨ v = 1) (hS : va_S A s.heap H locs) (hP : va_P D classes ws H) (hD : va_D A ws) (hp : post (some (.int v)) ws) (hdg : decode cc pc = .ok (.ireturn, 1)) :
    W p l e R s m args below meth c H locs cells slots (MQ below (zQ D post A) args s cells slots A) (F0 m pc ls [.int v]) :=
  W.zret (v := v) hx hb hr (by rcases hv with rfl | rfl <;> rfl) (fun t ht hW => ⟨⟨_, ws, rfl, hp, by rw [ht]; exact hP, hD⟩, hS.F ht⟩) hS.2.2 hdg hlocks
theorem z_lret {v : Int64} (hx : p.tables.exec = Jvm.exec) (hb : c.code = cc) (hr : meth.sig.returnType = some .long) (hlocks : meth.locks = false) (hS : va_S A s.heap H locs) (hP : va_P D classes ws H) (hD : va_D A ws) (hp : post (some (.long v)) ws) (hdg : decode cc pc = .ok (.lreturn, 1)) :
    W p l e R s m args below meth c H locs cells slots (MQ below (zQ D post A) args s cells slots A) (F0 m pc ls [.long v]) :=
  W.lret (v := v) hx hb hr (fun t ht hW => ⟨⟨_, ws, rfl, hp, by rw [ht]; exact hP, hD⟩, hS.F ht⟩) hS.2.2 hdg hlocks
theorem z_vret (hx : p.tables.exec = Jvm.exec) (hb : c.code = cc) (hr : meth.sig.returnType = none) (hlocks : meth.locks = false) (hS : va_S A s.heap H locs) (hP : va_P D classes ws H) (hD : va_D A ws) (hp : post none ws) (hdg : decode cc pc = .ok (.return_, 1)) :
    W p l e R s m args below meth c H locs cells slots (MQ below (zQ D post A) args s cells slots A) (F0 m pc ls []) :=
  W.vret hx hb hr (fun t ht hW => ⟨⟨_, ws, rfl, hp, by rw [ht]; exact hP, hD⟩, hS.F ht⟩) hS.2.2 hdg hlocks
/-- the top gets another name -/
theorem z_i {x v : Int32} (h : x = v) (k : W p l e R s m args below meth c H locs cells slots Q (F0 m pc ls (.int v :: rest))) : W p l e R s m args below meth c H locs cells slots Q (F0 m pc ls (.int x :: rest)) := by rw [h]; exact k
theorem z_l {x v : Int64} (h : x = v) (k : W p l e R s m args below meth c H locs cells slots Q (F0 m pc ls (.long v :: rest))) : W p l e R s m args below meth c H locs cells slots Q (F0 m pc ls (.long x :: rest)) := by rw [h]; exact k
/-- arrays at a number -/
theorem z_iald {a : Nat} (hx : p.tables.exec = Jvm.exec) (hb : c.code = cc) (hK : va_K D classes tys s) (hP : va_P D classes ws H) (q0 t0 : Nat) {cA : ClassId} {n : Nat} {f : Nat → Int32} (ha : ws[q0]? = some (a, .inl (cA, n, .inl f))) (ht : tys[t0]? = some (cA, .int)) {i : Nat} (hi : i < n) (hn : n < 2 ^ 31) (hdg : decode cc pc = .ok (.iaload, 1))
    (kk : W p l e R s m args below meth c H locs cells slots Q (F0 m (pc + 1) ls (.int (f i) :: rest))) : W p l e R s m args below meth c H locs cells slots Q (F0 m pc ls (.int (nI i) :: .ref a :: rest)) := by
  refine va_iald hx hb hK hP q0 t0 ha ht (vp_in_nI hi hn) hdg ?_
  rw [nI_clamp (Nat.lt_trans hi hn)]
  exact kk
theorem z_lald {a : Nat} (hx : p.tables.exec = Jvm.exec) (hb : c.code = cc) (hK : va_K D classes tys s) (hP : va_P D classes ws H) (q0 t0 : Nat) {cA : ClassId} {n : Nat} {f : Nat → Int64} (ha : ws[q0]? = some (a, .inl (cA, n, .inr (.inl f)))) (ht : tys[t0]? = some (cA, .long)) {i : Nat} (hi : i < n) (hn : n < 2 ^ 31) (hdg : decode cc pc = .ok (.laload, 1))
    (kk : W p l e R s m args below meth c H locs cells slots Q (F0 m (pc + 1) ls (.long (f i) :: rest))) : W p l e R s m args below meth c H locs cells slots Q (F0 m pc ls (.int (nI i) :: .ref a :: rest)) := by
  refine va_lald hx hb hK hP q0 t0 ha ht (vp_in_nI hi hn) hdg ?_
  rw [nI_clamp (Nat.lt_trans hi hn)]
  exact kk
theorem z_iast {a : Nat} (hx : p.tables.exec = Jvm.exec) (hb : c.code = cc) (hK : va_K D classes tys s) (hP : va_P D classes ws H) (hD : va_D A ws) (hS : va_S A H0 H locs) (q0 t0 : Nat) {cA : ClassId} {n : Nat} {f : Nat → Int32} (ha : ws[q0]? = some (a, .inl (cA, n, .inl f))) (ht : tys[t0]? = some (cA, .int)) {i : Nat} {x : Int32} (hi : i < n) (hn : n < 2 ^ 31) (hdg : decode cc pc = .ok (.iastore, 1)) (hw : ws.set q0 (a, .inl (cA, n, .inl (upd f i x))) = w2)
    (kk : ∀ (H1 : Heap) (locs1 : List Loc), va_P D classes w2 H1 → va_D A w2 → va_S A H0 H1 locs1 → W p l e R s m args below meth c H1 locs1 cells slots Q (F0 m (pc + 1) ls rest)) : W p l e R s m args below meth c H locs cells slots Q (F0 m pc ls (.int x :: .int (nI i) :: .ref a :: rest)) := by
  refine va_iast hx hb hK hP hD hS q0 t0 ha ht (vp_in_nI hi hn) hdg ?_
  rw [nI_clamp (Nat.lt_trans hi hn), hw]
  exact kk
theorem z_last {a : Nat} (hx : p.tables.exec = Jvm.exec) (hb : c.code = cc) (hK : va_K D classes tys s) (hP : va_P D classes ws H) (hD : va_D A ws) (hS : va_S A H0 H locs) (q0 t0 : Nat) {cA : ClassId} {n : Nat} {f : Nat → Int64} (ha : ws[q0]? = some (a, .inl (cA, n, .inr (.inl f)))) (ht : tys[t0]? = some (cA, .long)) {i : Nat} {x : Int64} (hi : i < n) (hn : n < 2 ^ 31) (hdg : decode cc pc = .ok (.lastore, 1)) (hw : ws.set q0 (a, .inl (cA, n, .inr (.inl (vp_updL f i x)))) = w2)
    (kk : ∀ (H1 : Heap) (locs1 : List Loc), va_P D classes w2 H1 → va_D A w2 → va_S A H0 H1 locs1 → W p l e R s m args below meth c H1 locs1 cells slots Q (F0 m (pc + 1) ls rest)) : W p l e R s m args below meth c H locs cells slots Q (F0 m pc ls (.long x :: .int (nI i) :: .ref a :: rest)) := by
  refine va_last hx hb hK hP hD hS q0 t0 ha ht (vp_in_nI hi hn) hdg ?_
  rw [nI_clamp (Nat.lt_trans hi hn), hw]
  exact kk
/-- branches at numbers -/
theorem zn_ge {a b : Nat} (ha : a < 2 ^ 31) (hb' : b < 2 ^ 31) (hx : p.tables.exec = Jvm.exec) (hb : c.code = cc) {off : Int} {tgt : Nat} (hdg : decode cc pc = .ok (.if_icmp .ge off, 3)) (ht : (pc : Int) + off = (tgt : Int))
    (kt : b ≤ a → W p l e R s m args below meth c H locs cells slots Q (F0 m tgt ls rest)) (kf : a < b → W p l e R s m args below meth c H locs cells slots Q (F0 m (pc + 3) ls rest)) : W p l e R s m args below meth c H locs cells slots Q (F0 m pc ls (.int (nI b) :: .int (nI a) :: rest)) :=
  lv_icmp_ge hx hb hdg ht (fun h => kt ((nI_leI hb' ha).mp h)) (fun h => kf (Nat.lt_of_not_le fun z => h ((nI_leI hb' ha).mpr z)))
theorem zn_lt {a b : Nat} (ha : a < 2 ^ 31) (hb' : b < 2 ^ 31) (hx : p.tables.exec = Jvm.exec) (hb : c.code = cc) {off : Int} {tgt : Nat} (hdg : decode cc pc = .ok (.if_icmp .lt off, 3)) (ht : (pc : Int) + off = (tgt : Int))
    (kt : a < b → W p l e R s m args below meth c H locs cells slots Q (F0 m tgt ls rest)) (kf : b ≤ a → W p l e R s m args below meth c H locs cells slots Q (F0 m (pc + 3) ls rest)) : W p l e R s m args below meth c H locs cells slots Q (F0 m pc ls (.int (nI b) :: .int (nI a) :: rest)) :=
  lv_icmp_lt hx hb hdg ht (fun h => kt ((nI_ltI ha hb').mp h)) (fun h => kf (Nat.le_of_not_lt fun z => h ((nI_ltI ha hb').mpr z)))
theorem zn_gt {a b : Nat} (ha : a < 2 ^ 31) (hb' : b < 2 ^ 31) (hx : p.tables.exec = Jvm.exec) (hb : c.code = cc) {off : Int} {tgt : Nat} (hdg : decode cc pc = .ok (.if_icmp .gt off, 3)) (ht : (pc : Int) + off = (tgt : Int))
    (kt : b < a → W p l e R s m args below meth c H locs cells slots Q (F0 m tgt ls rest)) (kf : a ≤ b → W p l e R s m args below meth c H locs cells slots Q (F0 m (pc + 3) ls rest)) : W p l e R s m args below meth c H locs cells slots Q (F0 m pc ls (.int (nI b) :: .int (nI a) :: rest)) :=
  lv_icmp_gt hx hb hdg ht (fun h => kt ((nI_ltI hb' ha).mp h)) (fun h => kf (Nat.le_of_not_lt fun z => h ((nI_ltI hb' ha).mpr z)))
theorem zn_le {a b : Nat} (ha : a < 2 ^ 31) (hb' : b < 2 ^ 31) (hx : p.tables.exec = Jvm.exec) (hb : c.code = cc) {off : Int} {tgt : Nat} (hdg : decode cc pc = .ok (.if_icmp .le off, 3)) (ht : (pc : Int) + off = (tgt : Int))
    (kt : a ≤ b → W p l e R s m args below meth c H locs cells slots Q (F0 m tgt ls rest)) (kf : b < a → W p l e R s m args below meth c H locs cells slots Q (F0 m (pc + 3) ls rest)) : W p l e R s m args below meth c H locs cells slots Q (F0 m pc ls (.int (nI b) :: .int (nI a) :: rest)) :=
  lv_icmp_le hx hb hdg ht (fun h => kt ((nI_leI ha hb').mp h)) (fun h => kf (Nat.lt_of_not_le fun z => h ((nI_leI ha hb').mpr z)))
theorem zn_eq {a b : Nat} (ha : a < 2 ^ 31) (hb' : b < 2 ^ 31) (hx : p.tables.exec = Jvm.exec) (hb : c.code = cc) {off : Int} {tgt : Nat} (hdg : decode cc pc = .ok (.if_icmp .eq off, 3)) (ht : (pc : Int) + off = (tgt : Int))
    (kt : a = b → W p l e R s m args below meth c H locs cells slots Q (F0 m tgt ls rest)) (kf : a ≠ b → W p l e R s m args below meth c H locs cells slots Q (F0 m (pc + 3) ls rest)) : W p l e R s m args below meth c H locs cells slots Q (F0 m pc ls (.int (nI b) :: .int (nI a) :: rest)) :=
  lv_icmp_eq hx hb hdg ht (fun h => kt ((nI_eq ha hb').mp h)) (fun h => kf (fun z => h ((nI_eq ha hb').mpr z)))
theorem zn_ne {a b : Nat} (ha : a < 2 ^ 31) (hb' : b < 2 ^ 31) (hx : p.tables.exec = Jvm.exec) (hb : c.code = cc) {off : Int} {tgt : Nat} (hdg : decode cc pc = .ok (.if_icmp .ne off, 3)) (ht : (pc : Int) + off = (tgt : Int))
    (kt : a ≠ b → W p l e R s m args below meth c H locs cells slots Q (F0 m tgt ls rest)) (kf : a = b → W p l e R s m args below meth c H locs cells slots Q (F0 m (pc + 3) ls rest)) : W p l e R s m args below meth c H locs cells slots Q (F0 m pc ls (.int (nI b) :: .int (nI a) :: rest)) :=
  lv_icmp_ne hx hb hdg ht (fun h => kt (fun z => h ((nI_eq ha hb').mpr z))) (fun h => kf ((nI_eq ha hb').mp h))
/-- branches at 0 -/
theorem z0_eq {a : Nat} (ha : a < 2 ^ 31) (hx : p.tables.exec = Jvm.exec) (hb : c.code = cc) {off : Int} {tgt : Nat} (hdg : decode cc pc = .ok (.ifCond .eq off, 3)) (ht : (pc : Int) + off = (tgt : Int))
    (kt : a = 0 → W p l e R s m args below meth c H locs cells slots Q (F0 m tgt ls rest)) (kf : 0 < a → W p l e R s m args below meth c H locs cells slots Q (F0 m (pc + 3) ls rest)) : W p l e R s m args below meth c H locs cells slots Q (F0 m pc ls (.int (nI a) :: rest)) :=
  lv_if_eq hx hb hdg ht (fun h => kt ((nI_eq ha (by decide)).mp (h.trans nI_0.symm))) (fun h => kf (Nat.pos_of_ne_zero fun z => h (by rw [z]; exact nI_0)))
theorem z0_ne {a : Nat} (ha : a < 2 ^ 31) (hx : p.tables.exec = Jvm.exec) (hb : c.code = cc) {off : Int} {tgt : Nat} (hdg : decode cc pc = .ok (.ifCond .ne off, 3)) (ht : (pc : Int) + off = (tgt : Int))
    (kt : 0 < a → W p l e R s m args below meth c H locs cells slots Q (F0 m tgt ls rest)) (kf : a = 0 → W p l e R s m args below meth c H locs cells slots Q (F0 m (pc + 3) ls rest)) : W p l e R s m args below meth c H locs cells slots Q (F0 m pc ls (.int (nI a) :: rest)) :=
  lv_if_ne hx hb hdg ht (fun h => kt (Nat.pos_of_ne_zero fun z => h (by rw [z]; exact nI_0))) (fun h => kf ((nI_eq ha (by decide)).mp (h.trans nI_0.symm)))
theorem z0_lt {a : Nat} (ha : a < 2 ^ 31) (hx : p.tables.exec = Jvm.exec) (hb : c.code = cc) {off : Int} {tgt : Nat} (hdg : decode cc pc = .ok (.ifCond .lt off, 3)) (ht : (pc : Int) + off = (tgt : Int))
    (kf : W p l e R s m args below meth c H locs cells slots Q (F0 m (pc + 3) ls rest)) : W p l e R s m args below meth c H locs cells slots Q (F0 m pc ls (.int (nI a) :: rest)) :=
  lv_if_lt hx hb hdg ht (fun h => absurd h (nI_pos ha)) (fun _ => kf)
theorem z0_ge {a : Nat} (ha : a < 2 ^ 31) (hx : p.tables.exec = Jvm.exec) (hb : c.code = cc) {off : Int} {tgt : Nat} (hdg : decode cc pc = .ok (.ifCond .ge off, 3)) (ht : (pc : Int) + off = (tgt : Int))
    (kt : W p l e R s m args below meth c H locs cells slots Q (F0 m tgt ls rest)) : W p l e R s m args below meth c H locs cells slots Q (F0 m pc ls (.int (nI a) :: rest)) :=
  lv_if_ge hx hb hdg ht (fun _ => kt) (fun h => absurd (nI_pos' ha) h)
theorem z0_gt {a : Nat} (ha : a < 2 ^ 31) (hx : p.tables.exec = Jvm.exec) (hb : c.code = cc) {off : Int} {tgt : Nat} (hdg : decode cc pc = .ok (.ifCond .gt off, 3)) (ht : (pc : Int) + off = (tgt : Int))
    (kt : 0 < a → W p l e R s m args below meth c H locs cells slots Q (F0 m tgt ls rest)) (kf : a = 0 → W p l e R s m args below meth c H locs cells slots Q (F0 m (pc + 3) ls rest)) : W p l e R s m args below meth c H locs cells slots Q (F0 m pc ls (.int (nI a) :: rest)) :=
  lv_if_gt hx hb hdg ht (fun h => kt (Nat.pos_of_ne_zero fun z => by rw [z] at h; exact absurd h (by decide))) (fun h => kf (by rcases Nat.eq_zero_or_pos a with z | z; exact z; exact absurd (show (0 : Int32) < nI a from by rw [← nI_0]; exact nI_lt z ha) h))
theorem z0_le {a : Nat} (ha : a < 2 ^ 31) (hx : p.tables.exec = Jvm.exec) (hb : c.code = cc) {off : Int} {tgt : Nat} (hdg : decode cc pc = .ok (.ifCond .le off, 3)) (ht : (pc : Int) + off = (tgt : Int))
    (kt : a = 0 → W p l e R s m args below meth c H locs cells slots Q (F0 m tgt ls rest)) (kf : 0 < a → W p l e R s m args below meth c H locs cells slots Q (F0 m (pc + 3) ls rest)) : W p l e R s m args below meth c H locs cells slots Q (F0 m pc ls (.int (nI a) :: rest)) :=
  lv_if_le hx hb hdg ht (fun h => kt (by rcases Nat.eq_zero_or_pos a with z | z; exact z; exact absurd h (nI_nle z ha))) (fun h => kf (Nat.pos_of_ne_zero fun z => h (by rw [z]; decide)))
/-- two longs compared, and the branch behind it -/
theorem zl_eq {x y : Int64} (hx : p.tables.exec = Jvm.exec) (hb : c.code = cc) {off : Int} {tgt : Nat} (d1 : decode cc pc = .ok (.lcmp, 1)) (hdg : decode cc (pc + 1) = .ok (.ifCond .eq off, 3)) (ht : ((pc + 1 : Nat) : Int) + off = (tgt : Int))
    (kt : x = y → W p l e R s m args below meth c H locs cells slots Q (F0 m tgt ls rest)) (kf : ¬ x = y → W p l e R s m args below meth c H locs cells slots Q (F0 m (pc + 1 + 3) ls rest)) : W p l e R s m args below meth c H locs cells slots Q (F0 m pc ls (.long y :: .long x :: rest)) :=
  W.lcmp hx hb d1 (lv_if_eq hx hb hdg ht (fun h => kt ((lg_cmp_eq x y).mp h)) (fun h => kf (fun z => h ((lg_cmp_eq x y).mpr z))))
theorem zl_ne {x y : Int64} (hx : p.tables.exec = Jvm.exec) (hb : c.code = cc) {off : Int} {tgt : Nat} (d1 : decode cc pc = .ok (.lcmp, 1)) (hdg : decode cc (pc + 1) = .ok (.ifCond .ne off, 3)) (ht : ((pc + 1 : Nat) : Int) + off = (tgt : Int))
    (kt : ¬ x = y → W p l e R s m args below meth c H locs cells slots Q (F0 m tgt ls rest)) (kf : x = y → W p l e R s m args below meth c H locs cells slots Q (F0 m (pc + 1 + 3) ls rest)) : W p l e R s m args below meth c H locs cells slots Q (F0 m pc ls (.long y :: .long x :: rest)) :=
  W.lcmp hx hb d1 (lv_if_ne hx hb hdg ht (fun h => kt (fun z => h ((lg_cmp_eq x y).mpr z))) (fun h => kf ((lg_cmp_eq x y).mp h)))
theorem zl_lt {x y : Int64} (hx : p.tables.exec = Jvm.exec) (hb : c.code = cc) {off : Int} {tgt : Nat} (d1 : decode cc pc = .ok (.lcmp, 1)) (hdg : decode cc (pc + 1) = .ok (.ifCond .lt off, 3)) (ht : ((pc + 1 : Nat) : Int) + off = (tgt : Int))
    (kt : x < y → W p l e R s m args below meth c H locs cells slots Q (F0 m tgt ls rest)) (kf : ¬ x < y → W p l e R s m args below meth c H locs cells slots Q (F0 m (pc + 1 + 3) ls rest)) : W p l e R s m args below meth c H locs cells slots Q (F0 m pc ls (.long y :: .long x :: rest)) :=
  W.lcmp hx hb d1 (lv_if_lt hx hb hdg ht (fun h => kt ((lg_cmp_lt x y).mp h)) (fun h => kf (fun z => h ((lg_cmp_lt x y).mpr z))))
theorem zl_ge {x y : Int64} (hx : p.tables.exec = Jvm.exec) (hb : c.code = cc) {off : Int} {tgt : Nat} (d1 : decode cc pc = .ok (.lcmp, 1)) (hdg : decode cc (pc + 1) = .ok (.ifCond .ge off, 3)) (ht : ((pc + 1 : Nat) : Int) + off = (tgt : Int))
    (kt : y ≤ x → W p l e R s m args below meth c H locs cells slots Q (F0 m tgt ls rest)) (kf : ¬ y ≤ x → W p l e R s m args below meth c H locs cells slots Q (F0 m (pc + 1 + 3) ls rest)) : W p l e R s m args below meth c H locs cells slots Q (F0 m pc ls (.long y :: .long x :: rest)) :=
  W.lcmp hx hb d1 (lv_if_ge hx hb hdg ht (fun h => kt ((lg_cmp_ge x y).mp h)) (fun h => kf (fun z => h ((lg_cmp_ge x y).mpr z))))
theorem zl_gt {x y : Int64} (hx : p.tables.exec = Jvm.exec) (hb : c.code = cc) {off : Int} {tgt : Nat} (d1 : decode cc pc = .ok (.lcmp, 1)) (hdg : decode cc (pc + 1) = .ok (.ifCond .gt off, 3)) (ht : ((pc + 1 : Nat) : Int) + off = (tgt : Int))
    (kt : y < x → W p l e R s m args below meth c H locs cells slots Q (F0 m tgt ls rest)) (kf : ¬ y < x → W p l e R s m args below meth c H locs cells slots Q (F0 m (pc + 1 + 3) ls rest)) : W p l e R s m args below meth c H locs cells slots Q (F0 m pc ls (.long y :: .long x :: rest)) :=
  W.lcmp hx hb d1 (lv_if_gt hx hb hdg ht (fun h => kt ((lg_cmp_gt x y).mp h)) (fun h => kf (fun z => h ((lg_cmp_gt x y).mpr z))))
theorem zl_le {x y : Int64} (hx : p.tables.exec = Jvm.exec) (hb : c.code = cc) {off : Int} {tgt : Nat} (d1 : decode cc pc = .ok (.lcmp, 1)) (hdg : decode cc (pc + 1) = .ok (.ifCond .le off, 3)) (ht : ((pc + 1 : Nat) : Int) + off = (tgt : Int))
    (kt : x ≤ y → W p l e R s m args below meth c H locs cells slots Q (F0 m tgt ls rest)) (kf : ¬ x ≤ y → W p l e R s m args below meth c H locs cells slots Q (F0 m (pc + 1 + 3) ls rest)) : W p l e R s m args below meth c H locs cells slots Q (F0 m pc ls (.long y :: .long x :: rest)) :=
  W.lcmp hx hb d1 (lv_if_le hx hb hdg ht (fun h => kt ((lg_cmp_le x y).mp h)) (fun h => kf (fun z => h ((lg_cmp_le x y).mpr z))))
end ZB
theorem zrem {a d : Nat} (ha : a < 2 ^ 31) (h0 : 0 < d) (hd : d < 2 ^ 31) : nI a - nI a / nI d * nI d = nI (a % d) := pk_rem ha h0 hd
theorem zinc (a k : Nat) : nI a + Int32.ofInt (k : Int) = nI (a + k) := by
  rw [← nI_add]
  rfl
theorem zdec {a k : Nat} (h : k ≤ a) : nI a + Int32.ofInt (-(k : Int)) = nI (a - k) := by
  rw [← pk_sub h, Int32.sub_eq_add_neg]
  congr 1
  show Int32.ofInt (-(k : Int)) = - Int32.ofNat k
  rw [Int32.ofInt_neg]
  rfl
theorem zmin {a b : Nat} (ha : a < 2 ^ 31) (hb : b < 2 ^ 31) : (if nI b < nI a then nI b else nI a) = nI (min a b) := by
  by_cases h : b < a
  · rw [if_pos (nI_lt h ha), Nat.min_eq_right (Nat.le_of_lt h)]
  · rw [if_neg (nI_nlt (Nat.le_of_not_lt h) hb), Nat.min_eq_left (Nat.le_of_not_lt h)]
/-- truth as an int -/
def zb (b : Bool) : Int32 := if b = true then 1 else 0
theorem zb_01 (b : Bool) : zb b = 0 ∨ zb b = 1 := by cases b; exact Or.inl rfl; exact Or.inr rfl
theorem zb_t {b : Bool} (h : b = true) : some (Value.int (nI 1)) = some (Value.int (zb b)) := by rw [h]; rfl
theorem zb_f {b : Bool} (h : b = false) : some (Value.int (nI 0)) = some (Value.int (zb b)) := by rw [h]; rfl
section ZT
variable {p : Program} {l : Launch} {e : Env} {R : Room} {s : State} {m : MethodId} {args : Array Value} {below : List Frame} {meth : Method} {c : Code} {H : Heap} {locs : List Loc} {cells slots : Nat} {Q : State → Prop}
variable {cc : ByteArray} {pc : Nat} {ls : Array Slot} {rest st0 : List Value} {D : va_G} {A : Nat → Prop} {tys : List (ClassId × FieldType)} {ws wc wr w2 w1 : va_W} {H0 : Heap}
theorem zb_eq {b : Bool} (hx : p.tables.exec = Jvm.exec) (hb : c.code = cc) {off : Int} {tgt : Nat} (hdg : decode cc pc = .ok (.ifCond .eq off, 3)) (ht : (pc : Int) + off = (tgt : Int))
    (kt : b = false → W p l e R s m args below meth c H locs cells slots Q (F0 m tgt ls rest)) (kf : b = true → W p l e R s m args below meth c H locs cells slots Q (F0 m (pc + 3) ls rest)) : W p l e R s m args below meth c H locs cells slots Q (F0 m pc ls (.int (zb b) :: rest)) :=
  lv_if_eq hx hb hdg ht (fun h => kt (by cases b; rfl; exact absurd h (by decide))) (fun h => kf (by cases b; exact absurd rfl h; rfl))
theorem zb_ne {b : Bool} (hx : p.tables.exec = Jvm.exec) (hb : c.code = cc) {off : Int} {tgt : Nat} (hdg : decode cc pc = .ok (.ifCond .ne off, 3)) (ht : (pc : Int) + off = (tgt : Int))
    (kt : b = true → W p l e R s m args below meth c H locs cells slots Q (F0 m tgt ls rest)) (kf : b = false → W p l e R s m args below meth c H locs cells slots Q (F0 m (pc + 3) ls rest)) : W p l e R s m args below meth c H locs cells slots Q (F0 m pc ls (.int (zb b) :: rest)) :=
  lv_if_ne hx hb hdg ht (fun h => kt (by cases b; exact absurd rfl h; rfl)) (fun h => kf (by cases b; rfl; exact absurd h (by decide)))
theorem z_callEi {r : Int32} {a : Array Value} (hr : va_Run p l e R s m args below meth c H locs cells slots 0 0 (F0 m pc ls st0) rest (zQ D (zEq (some (.int r)) w1) (va_A wc H.size) a) (va_A wc H.size))
    (hP : va_P D classes ws H) (hD : va_D A ws) (hS : va_S A H0 H locs) (hA : ∀ q, H0.size ≤ q → A q) (isC isR isP : List Nat) (hC : isC.map (fun i => ws[i]?) = wc.map some) (hR : isR.map (fun i => ws[i]?) = wr.map some) (hn : va_nd isR = true) (hdis : ∀ i ∈ isR, i ∉ isC)
    (hpn : va_nd isP = true) (hp : isP.map (fun i => (wr ++ w1)[i]?) = w2.map some)
    (kk : ∀ (H1 : Heap) (locs1 : List Loc), va_P D classes w2 H1 → va_D A w2 → va_S A H0 H1 locs1 → W p l e R s m args below meth c H1 locs1 cells slots Q (F0 m (pc + 3) ls (.int r :: rest))) :
    W p l e R s m args below meth c H locs cells slots Q (F0 m pc ls st0) := z_callE hr hP hD hS hA isC isR isP hC hR hn hdis hpn hp kk
theorem z_callEl {r : Int64} {a : Array Value} (hr : va_Run p l e R s m args below meth c H locs cells slots 0 0 (F0 m pc ls st0) rest (zQ D (zEq (some (.long r)) w1) (va_A wc H.size) a) (va_A wc H.size))
    (hP : va_P D classes ws H) (hD : va_D A ws) (hS : va_S A H0 H locs) (hA : ∀ q, H0.size ≤ q → A q) (isC isR isP : List Nat) (hC : isC.map (fun i => ws[i]?) = wc.map some) (hR : isR.map (fun i => ws[i]?) = wr.map some) (hn : va_nd isR = true) (hdis : ∀ i ∈ isR, i ∉ isC)
    (hpn : va_nd isP = true) (hp : isP.map (fun i => (wr ++ w1)[i]?) = w2.map some)
    (kk : ∀ (H1 : Heap) (locs1 : List Loc), va_P D classes w2 H1 → va_D A w2 → va_S A H0 H1 locs1 → W p l e R s m args below meth c H1 locs1 cells slots Q (F0 m (pc + 3) ls (.long r :: rest))) :
    W p l e R s m args below meth c H locs cells slots Q (F0 m pc ls st0) := z_callE hr hP hD hS hA isC isR isP hC hR hn hdis hpn hp kk
theorem z_callEv {a : Array Value} (hr : va_Run p l e R s m args below meth c H locs cells slots 0 0 (F0 m pc ls st0) rest (zQ D (zEq none w1) (va_A wc H.size) a) (va_A wc H.size))
    (hP : va_P D classes ws H) (hD : va_D A ws) (hS : va_S A H0 H locs) (hA : ∀ q, H0.size ≤ q → A q) (isC isR isP : List Nat) (hC : isC.map (fun i => ws[i]?) = wc.map some) (hR : isR.map (fun i => ws[i]?) = wr.map some) (hn : va_nd isR = true) (hdis : ∀ i ∈ isR, i ∉ isC)
    (hpn : va_nd isP = true) (hp : isP.map (fun i => (wr ++ w1)[i]?) = w2.map some)
    (kk : ∀ (H1 : Heap) (locs1 : List Loc), va_P D classes w2 H1 → va_D A w2 → va_S A H0 H1 locs1 → W p l e R s m args below meth c H1 locs1 cells slots Q (F0 m (pc + 3) ls rest)) :
    W p l e R s m args below meth c H locs cells slots Q (F0 m pc ls st0) := z_callE hr hP hD hS hA isC isR isP hC hR hn hdis hpn hp kk
end ZT
section ZNA
variable {p : Program} {l : Launch} {e : Env} {R : Room} {s : State} {m : MethodId} {args : Array Value} {below : List Frame} {meth : Method} {c : Code} {H : Heap} {locs : List Loc} {cells slots : Nat} {Q : State → Prop}
variable {cc : ByteArray} {pc : Nat} {ls : Array Slot} {rest : List Value} {D : va_G} {A : Nat → Prop} {ws : va_W} {H0 : Heap}
theorem z_newa (hexec : p.tables.exec = Jvm.exec) (hb : c.code = cc) {atype : ArrayType} (harr : (Cond.arrayClass (newarray.typeOf atype)).before args s = true) {cA : ClassId} (hfc : s.vm.findClass ("[" ++ (newarray.typeOf atype).toString) = some cA) (hP : va_P D classes ws H) (hD : va_D A ws) (hS : va_S A H0 H locs) (hA : ∀ q, H0.size ≤ q → A q)
    {n : Int32} {N' : Nat} {a0 : vp_A} (ha : ∀ cA : ClassId, vp_cell cA a0 = arrV cA N' (fun _ => defaultValue (newarray.typeOf atype))) (hn : ¬ n < 0) (hN : n.toNatClampNeg = N') (hbytes : N' * componentBytes (newarray.typeOf atype) ≤ 536870912) (hcells : cells + 1 ≤ R.cells) (hslots : slots + N' ≤ R.slots) (hdg : decode cc pc = .ok (.newarray atype, 2))
    (kk : ∀ (q : Nat) (H1 : Heap), va_P D classes (ws ++ [(q, .inl (cA, a0))]) H1 → va_D A (ws ++ [(q, .inl (cA, a0))]) → va_S A H0 H1 locs →
      W p l e R s m args below meth c H1 locs (cells + 1) (slots + N') Q (F0 m (pc + 2) ls (.ref q :: rest))) : W p l e R s m args below meth c H locs cells slots Q (F0 m pc ls (.int n :: rest)) := by
  refine va_newaK hexec hb harr rfl hdg rfl hn hN hbytes hcells hslots rfl fun H1 cA1 e1 z1 o1 hAr hNm => ?_
  obtain rfl : cA1 = cA := Option.some.inj (hNm.symm.trans hfc)
  have hk : ∀ (k : Nat) (x : Nat × va_E), ws[k]? = some x → H1[x.1]? = H[x.1]? := fun k x hx => o1 x.1 ((hP k x hx).lt)
  refine kk H.size H1 ((hP.kept hk).app (fun k x hx => ?_)) (hD.push hP rfl (hA _ hS.1)) ⟨Nat.le_trans hS.1 (by omega), fun x h1 h2 => (o1 x (Nat.lt_of_lt_of_le h1 hS.1)).trans (hS.2.1 x h1 h2), hS.2.2⟩
  have hz : k < 1 := (List.getElem?_eq_some_iff.mp hx).1
  rw [show k = 0 by omega] at hx
  cases hx
  show H1[H.size]? = some (vp_cell _ _)
  rw [ha]
  exact e1
end ZNA
end
section
section ZFD
variable {p : Program} {l : Launch} {e : Env} {R : Room} {s : State} {m : MethodId} {args : Array Value} {below : List Frame} {meth : Method} {c : Code} {H : Heap} {locs : List Loc} {cells slots : Nat} {Q : State → Prop}
variable {cc : ByteArray} {pc : Nat} {ls : Array Slot} {rest : List Value} {D : va_G} {A : Nat → Prop} {tys : List (ClassId × FieldType)} {ws w2 : va_W} {H0 : Heap}
theorem g_ByteRow_9 {a : Nat} {v : Value} {fs : List Value} (hx : p.tables.exec = Jvm.exec) (hb : c.code = cc) (hts : ∀ w ∈ zW, w.before args s = true) (hown : s.vm.findClass R_ByteRow = some m.cls) (hK : va_K D classes tys s) (hP : va_P D classes ws H) (q0 : Nat) (he : ws[q0]? = some (a, .inr (0, fs))) (hv : fs[0]? = some v) (hdg : decode cc pc = .ok (.getfield 9, 3)) (kk : W p l e R s m args below meth c H locs cells slots Q (F0 m (pc + 3) ls (v :: rest))) : W p l e R s m args below meth c H locs cells slots Q (F0 m pc ls (.ref a :: rest)) :=
  va_get (ci := 0) (C := R_ByteRow) (T := F_ByteRow) (N := 2) hx hb hts i_ByteRow hown hK hP q0 he rfl 0 (by decide) (kf_ByteRow_9 hts) (fun _ h9 => h9) hv hdg kk
theorem p_ByteRow_9 {a : Nat} {x : Nat} {fs : List Value} (hx : p.tables.exec = Jvm.exec) (hb : c.code = cc) (hts : ∀ w ∈ zW, w.before args s = true) (hown : s.vm.findClass R_ByteRow = some m.cls) (hnm : meth.name = "<init>") (hK : va_K D classes tys s) (hP : va_P D classes ws H) (hD : va_D A ws) (hS : va_S A H0 H locs) (q0 : Nat) (he : ws[q0]? = some (a, .inr (0, fs))) (hl : 0 < fs.length) (hw : ws.set q0 (a, .inr (0, fs.set 0 (.ref x))) = w2) (hdg : decode cc pc = .ok (.putfield 9, 3)) (kk : ∀ (H1 : Heap) (locs1 : List Loc), va_P D classes w2 H1 → va_D A w2 → va_S A H0 H1 locs1 → W p l e R s m args below meth c H1 locs1 cells slots Q (F0 m (pc + 3) ls rest)) : W p l e R s m args below meth c H locs cells slots Q (F0 m pc ls (.ref x :: .ref a :: rest)) := by
  subst hw
  exact va_putF (ci := 0) (ty := (.array .long)) (C := R_ByteRow) (T := F_ByteRow) (N := 2) hx hb hts i_ByteRow t_ByteRow t_ByteRow_ok n_ByteRow hown hK hP hD hS q0 he rfl 0 (by decide) (kf_ByteRow_9 hts) (fun _ h9 => h9) rfl hnm rfl (by decide +kernel) rfl rfl hl hdg kk
theorem g_ByteRow_15 {a : Nat} {v : Value} {fs : List Value} (hx : p.tables.exec = Jvm.exec) (hb : c.code = cc) (hts : ∀ w ∈ zW, w.before args s = true) (hown : s.vm.findClass R_ByteRow = some m.cls) (hK : va_K D classes tys s) (hP : va_P D classes ws H) (q0 : Nat) (he : ws[q0]? = some (a, .inr (0, fs))) (hv : fs[1]? = some v) (hdg : decode cc pc = .ok (.getfield 15, 3)) (kk : W p l e R s m args below meth c H locs cells slots Q (F0 m (pc + 3) ls (v :: rest))) : W p l e R s m args below meth c H locs cells slots Q (F0 m pc ls (.ref a :: rest)) :=
  va_get (ci := 0) (C := R_ByteRow) (T := F_ByteRow) (N := 2) hx hb hts i_ByteRow hown hK hP q0 he rfl 1 (by decide) (kf_ByteRow_15 hts) (fun _ h9 => h9) hv hdg kk
theorem p_ByteRow_15 {a : Nat} {x : Int32} {fs : List Value} (hx : p.tables.exec = Jvm.exec) (hb : c.code = cc) (hts : ∀ w ∈ zW, w.before args s = true) (hown : s.vm.findClass R_ByteRow = some m.cls) (hK : va_K D classes tys s) (hP : va_P D classes ws H) (hD : va_D A ws) (hS : va_S A H0 H locs) (q0 : Nat) (he : ws[q0]? = some (a, .inr (0, fs))) (hl : 1 < fs.length) (hw : ws.set q0 (a, .inr (0, fs.set 1 (.int x))) = w2) (hdg : decode cc pc = .ok (.putfield 15, 3)) (kk : ∀ (H1 : Heap) (locs1 : List Loc), va_P D classes w2 H1 → va_D A w2 → va_S A H0 H1 locs1 → W p l e R s m args below meth c H1 locs1 cells slots Q (F0 m (pc + 3) ls rest)) : W p l e R s m args below meth c H locs cells slots Q (F0 m pc ls (.int x :: .ref a :: rest)) := by
  subst hw
  exact va_put (ci := 0) (ty := .int) (C := R_ByteRow) (T := F_ByteRow) (N := 2) hx hb hts i_ByteRow t_ByteRow t_ByteRow_ok n_ByteRow hown hK hP hD hS q0 he rfl 1 (by decide) (kf_ByteRow_15 hts) (fun _ h9 => h9) rfl (by decide +kernel) rfl rfl hl hdg kk
theorem g_Scan_52 {a : Nat} {v : Value} {fs : List Value} (hx : p.tables.exec = Jvm.exec) (hb : c.code = cc) (hts : ∀ w ∈ zW, w.before args s = true) (hown : s.vm.findClass R_Scan = some m.cls) (hK : va_K D classes tys s) (hP : va_P D classes ws H) (q0 : Nat) (he : ws[q0]? = some (a, .inr (0, fs))) (hv : fs[1]? = some v) (hdg : decode cc pc = .ok (.getfield 52, 3)) (kk : W p l e R s m args below meth c H locs cells slots Q (F0 m (pc + 3) ls (v :: rest))) : W p l e R s m args below meth c H locs cells slots Q (F0 m pc ls (.ref a :: rest)) :=
  va_get (ci := 0) (C := R_ByteRow) (T := F_ByteRow) (N := 2) hx hb hts i_ByteRow hown hK hP q0 he rfl 1 (by decide) (kf_Scan_52 hts) (fun _ h9 => h9) hv hdg kk
theorem p_Scan_52 {a : Nat} {x : Int32} {fs : List Value} (hx : p.tables.exec = Jvm.exec) (hb : c.code = cc) (hts : ∀ w ∈ zW, w.before args s = true) (hown : s.vm.findClass R_Scan = some m.cls) (hK : va_K D classes tys s) (hP : va_P D classes ws H) (hD : va_D A ws) (hS : va_S A H0 H locs) (q0 : Nat) (he : ws[q0]? = some (a, .inr (0, fs))) (hl : 1 < fs.length) (hw : ws.set q0 (a, .inr (0, fs.set 1 (.int x))) = w2) (hdg : decode cc pc = .ok (.putfield 52, 3)) (kk : ∀ (H1 : Heap) (locs1 : List Loc), va_P D classes w2 H1 → va_D A w2 → va_S A H0 H1 locs1 → W p l e R s m args below meth c H1 locs1 cells slots Q (F0 m (pc + 3) ls rest)) : W p l e R s m args below meth c H locs cells slots Q (F0 m pc ls (.int x :: .ref a :: rest)) := by
  subst hw
  exact va_put (ci := 0) (ty := .int) (C := R_ByteRow) (T := F_ByteRow) (N := 2) hx hb hts i_ByteRow t_ByteRow t_ByteRow_ok n_ByteRow hown hK hP hD hS q0 he rfl 1 (by decide) (kf_Scan_52 hts) (fun _ h9 => h9) rfl (by decide +kernel) rfl rfl hl hdg kk
theorem g_DeltaRows_65 {a : Nat} {v : Value} {fs : List Value} (hx : p.tables.exec = Jvm.exec) (hb : c.code = cc) (hts : ∀ w ∈ zW, w.before args s = true) (hown : s.vm.findClass R_DeltaRows = some m.cls) (hK : va_K D classes tys s) (hP : va_P D classes ws H) (q0 : Nat) (he : ws[q0]? = some (a, .inr (0, fs))) (hv : fs[1]? = some v) (hdg : decode cc pc = .ok (.getfield 65, 3)) (kk : W p l e R s m args below meth c H locs cells slots Q (F0 m (pc + 3) ls (v :: rest))) : W p l e R s m args below meth c H locs cells slots Q (F0 m pc ls (.ref a :: rest)) :=
  va_get (ci := 0) (C := R_ByteRow) (T := F_ByteRow) (N := 2) hx hb hts i_ByteRow hown hK hP q0 he rfl 1 (by decide) (kf_DeltaRows_65 hts) (fun _ h9 => h9) hv hdg kk
theorem p_DeltaRows_65 {a : Nat} {x : Int32} {fs : List Value} (hx : p.tables.exec = Jvm.exec) (hb : c.code = cc) (hts : ∀ w ∈ zW, w.before args s = true) (hown : s.vm.findClass R_DeltaRows = some m.cls) (hK : va_K D classes tys s) (hP : va_P D classes ws H) (hD : va_D A ws) (hS : va_S A H0 H locs) (q0 : Nat) (he : ws[q0]? = some (a, .inr (0, fs))) (hl : 1 < fs.length) (hw : ws.set q0 (a, .inr (0, fs.set 1 (.int x))) = w2) (hdg : decode cc pc = .ok (.putfield 65, 3)) (kk : ∀ (H1 : Heap) (locs1 : List Loc), va_P D classes w2 H1 → va_D A w2 → va_S A H0 H1 locs1 → W p l e R s m args below meth c H1 locs1 cells slots Q (F0 m (pc + 3) ls rest)) : W p l e R s m args below meth c H locs cells slots Q (F0 m pc ls (.int x :: .ref a :: rest)) := by
  subst hw
  exact va_put (ci := 0) (ty := .int) (C := R_ByteRow) (T := F_ByteRow) (N := 2) hx hb hts i_ByteRow t_ByteRow t_ByteRow_ok n_ByteRow hown hK hP hD hS q0 he rfl 1 (by decide) (kf_DeltaRows_65 hts) (fun _ h9 => h9) rfl (by decide +kernel) rfl rfl hl hdg kk
theorem g_Scan_9 {a : Nat} {v : Value} {fs : List Value} (hx : p.tables.exec = Jvm.exec) (hb : c.code = cc) (hts : ∀ w ∈ zW, w.before args s = true) (hown : s.vm.findClass R_Scan = some m.cls) (hK : va_K D classes tys s) (hP : va_P D classes ws H) (q0 : Nat) (he : ws[q0]? = some (a, .inr (2, fs))) (hv : fs[0]? = some v) (hdg : decode cc pc = .ok (.getfield 9, 3)) (kk : W p l e R s m args below meth c H locs cells slots Q (F0 m (pc + 3) ls (v :: rest))) : W p l e R s m args below meth c H locs cells slots Q (F0 m pc ls (.ref a :: rest)) :=
  va_get (ci := 2) (C := R_Scan) (T := F_Scan) (N := 6) hx hb hts i_Scan hown hK hP q0 he rfl 0 (by decide) (kf_Scan_9 hts) (fun _ h9 => h9) hv hdg kk
theorem p_Scan_9 {a : Nat} {x : Nat} {fs : List Value} (hx : p.tables.exec = Jvm.exec) (hb : c.code = cc) (hts : ∀ w ∈ zW, w.before args s = true) (hown : s.vm.findClass R_Scan = some m.cls) (hnm : meth.name = "<init>") (hK : va_K D classes tys s) (hP : va_P D classes ws H) (hD : va_D A ws) (hS : va_S A H0 H locs) (q0 : Nat) (he : ws[q0]? = some (a, .inr (2, fs))) (hl : 0 < fs.length) (hw : ws.set q0 (a, .inr (2, fs.set 0 (.ref x))) = w2) (hdg : decode cc pc = .ok (.putfield 9, 3)) (kk : ∀ (H1 : Heap) (locs1 : List Loc), va_P D classes w2 H1 → va_D A w2 → va_S A H0 H1 locs1 → W p l e R s m args below meth c H1 locs1 cells slots Q (F0 m (pc + 3) ls rest)) : W p l e R s m args below meth c H locs cells slots Q (F0 m pc ls (.ref x :: .ref a :: rest)) := by
  subst hw
  exact va_putF (ci := 2) (ty := (.object "DeltaRows$ByteRow")) (C := R_Scan) (T := F_Scan) (N := 6) hx hb hts i_Scan t_Scan t_Scan_ok n_Scan hown hK hP hD hS q0 he rfl 0 (by decide) (kf_Scan_9 hts) (fun _ h9 => h9) rfl hnm rfl (by decide +kernel) rfl rfl hl hdg kk
theorem g_Scan_15 {a : Nat} {v : Value} {fs : List Value} (hx : p.tables.exec = Jvm.exec) (hb : c.code = cc) (hts : ∀ w ∈ zW, w.before args s = true) (hown : s.vm.findClass R_Scan = some m.cls) (hK : va_K D classes tys s) (hP : va_P D classes ws H) (q0 : Nat) (he : ws[q0]? = some (a, .inr (2, fs))) (hv : fs[1]? = some v) (hdg : decode cc pc = .ok (.getfield 15, 3)) (kk : W p l e R s m args below meth c H locs cells slots Q (F0 m (pc + 3) ls (v :: rest))) : W p l e R s m args below meth c H locs cells slots Q (F0 m pc ls (.ref a :: rest)) :=
  va_get (ci := 2) (C := R_Scan) (T := F_Scan) (N := 6) hx hb hts i_Scan hown hK hP q0 he rfl 1 (by decide) (kf_Scan_15 hts) (fun _ h9 => h9) hv hdg kk
theorem p_Scan_15 {a : Nat} {x : Int32} {fs : List Value} (hx : p.tables.exec = Jvm.exec) (hb : c.code = cc) (hts : ∀ w ∈ zW, w.before args s = true) (hown : s.vm.findClass R_Scan = some m.cls) (hK : va_K D classes tys s) (hP : va_P D classes ws H) (hD : va_D A ws) (hS : va_S A H0 H locs) (q0 : Nat) (he : ws[q0]? = some (a, .inr (2, fs))) (hl : 1 < fs.length) (hw : ws.set q0 (a, .inr (2, fs.set 1 (.int x))) = w2) (hdg : decode cc pc = .ok (.putfield 15, 3)) (kk : ∀ (H1 : Heap) (locs1 : List Loc), va_P D classes w2 H1 → va_D A w2 → va_S A H0 H1 locs1 → W p l e R s m args below meth c H1 locs1 cells slots Q (F0 m (pc + 3) ls rest)) : W p l e R s m args below meth c H locs cells slots Q (F0 m pc ls (.int x :: .ref a :: rest)) := by
  subst hw
  exact va_put (ci := 2) (ty := .int) (C := R_Scan) (T := F_Scan) (N := 6) hx hb hts i_Scan t_Scan t_Scan_ok n_Scan hown hK hP hD hS q0 he rfl 1 (by decide) (kf_Scan_15 hts) (fun _ h9 => h9) rfl (by decide +kernel) rfl rfl hl hdg kk
theorem g_Scan_19 {a : Nat} {v : Value} {fs : List Value} (hx : p.tables.exec = Jvm.exec) (hb : c.code = cc) (hts : ∀ w ∈ zW, w.before args s = true) (hown : s.vm.findClass R_Scan = some m.cls) (hK : va_K D classes tys s) (hP : va_P D classes ws H) (q0 : Nat) (he : ws[q0]? = some (a, .inr (2, fs))) (hv : fs[2]? = some v) (hdg : decode cc pc = .ok (.getfield 19, 3)) (kk : W p l e R s m args below meth c H locs cells slots Q (F0 m (pc + 3) ls (v :: rest))) : W p l e R s m args below meth c H locs cells slots Q (F0 m pc ls (.ref a :: rest)) :=
  va_get (ci := 2) (C := R_Scan) (T := F_Scan) (N := 6) hx hb hts i_Scan hown hK hP q0 he rfl 2 (by decide) (kf_Scan_19 hts) (fun _ h9 => h9) hv hdg kk
theorem p_Scan_19 {a : Nat} {x : Int32} {fs : List Value} (hx : p.tables.exec = Jvm.exec) (hb : c.code = cc) (hts : ∀ w ∈ zW, w.before args s = true) (hown : s.vm.findClass R_Scan = some m.cls) (hK : va_K D classes tys s) (hP : va_P D classes ws H) (hD : va_D A ws) (hS : va_S A H0 H locs) (q0 : Nat) (he : ws[q0]? = some (a, .inr (2, fs))) (hl : 2 < fs.length) (hw : ws.set q0 (a, .inr (2, fs.set 2 (.int x))) = w2) (hdg : decode cc pc = .ok (.putfield 19, 3)) (kk : ∀ (H1 : Heap) (locs1 : List Loc), va_P D classes w2 H1 → va_D A w2 → va_S A H0 H1 locs1 → W p l e R s m args below meth c H1 locs1 cells slots Q (F0 m (pc + 3) ls rest)) : W p l e R s m args below meth c H locs cells slots Q (F0 m pc ls (.int x :: .ref a :: rest)) := by
  subst hw
  exact va_put (ci := 2) (ty := .int) (C := R_Scan) (T := F_Scan) (N := 6) hx hb hts i_Scan t_Scan t_Scan_ok n_Scan hown hK hP hD hS q0 he rfl 2 (by decide) (kf_Scan_19 hts) (fun _ h9 => h9) rfl (by decide +kernel) rfl rfl hl hdg kk
theorem g_DeltaRows_72 {a : Nat} {v : Value} {fs : List Value} (hx : p.tables.exec = Jvm.exec) (hb : c.code = cc) (hts : ∀ w ∈ zW, w.before args s = true) (hown : s.vm.findClass R_DeltaRows = some m.cls) (hK : va_K D classes tys s) (hP : va_P D classes ws H) (q0 : Nat) (he : ws[q0]? = some (a, .inr (2, fs))) (hv : fs[2]? = some v) (hdg : decode cc pc = .ok (.getfield 72, 3)) (kk : W p l e R s m args below meth c H locs cells slots Q (F0 m (pc + 3) ls (v :: rest))) : W p l e R s m args below meth c H locs cells slots Q (F0 m pc ls (.ref a :: rest)) :=
  va_get (ci := 2) (C := R_Scan) (T := F_Scan) (N := 6) hx hb hts i_Scan hown hK hP q0 he rfl 2 (by decide) (kf_DeltaRows_72 hts) (fun _ h9 => h9) hv hdg kk
theorem p_DeltaRows_72 {a : Nat} {x : Int32} {fs : List Value} (hx : p.tables.exec = Jvm.exec) (hb : c.code = cc) (hts : ∀ w ∈ zW, w.before args s = true) (hown : s.vm.findClass R_DeltaRows = some m.cls) (hK : va_K D classes tys s) (hP : va_P D classes ws H) (hD : va_D A ws) (hS : va_S A H0 H locs) (q0 : Nat) (he : ws[q0]? = some (a, .inr (2, fs))) (hl : 2 < fs.length) (hw : ws.set q0 (a, .inr (2, fs.set 2 (.int x))) = w2) (hdg : decode cc pc = .ok (.putfield 72, 3)) (kk : ∀ (H1 : Heap) (locs1 : List Loc), va_P D classes w2 H1 → va_D A w2 → va_S A H0 H1 locs1 → W p l e R s m args below meth c H1 locs1 cells slots Q (F0 m (pc + 3) ls rest)) : W p l e R s m args below meth c H locs cells slots Q (F0 m pc ls (.int x :: .ref a :: rest)) := by
  subst hw
  exact va_put (ci := 2) (ty := .int) (C := R_Scan) (T := F_Scan) (N := 6) hx hb hts i_Scan t_Scan t_Scan_ok n_Scan hown hK hP hD hS q0 he rfl 2 (by decide) (kf_DeltaRows_72 hts) (fun _ h9 => h9) rfl (by decide +kernel) rfl rfl hl hdg kk
theorem g_Scan_22 {a : Nat} {v : Value} {fs : List Value} (hx : p.tables.exec = Jvm.exec) (hb : c.code = cc) (hts : ∀ w ∈ zW, w.before args s = true) (hown : s.vm.findClass R_Scan = some m.cls) (hK : va_K D classes tys s) (hP : va_P D classes ws H) (q0 : Nat) (he : ws[q0]? = some (a, .inr (2, fs))) (hv : fs[3]? = some v) (hdg : decode cc pc = .ok (.getfield 22, 3)) (kk : W p l e R s m args below meth c H locs cells slots Q (F0 m (pc + 3) ls (v :: rest))) : W p l e R s m args below meth c H locs cells slots Q (F0 m pc ls (.ref a :: rest)) :=
  va_get (ci := 2) (C := R_Scan) (T := F_Scan) (N := 6) hx hb hts i_Scan hown hK hP q0 he rfl 3 (by decide) (kf_Scan_22 hts) (fun _ h9 => h9) hv hdg kk
theorem p_Scan_22 {a : Nat} {x : Int32} {fs : List Value} (hx : p.tables.exec = Jvm.exec) (hb : c.code = cc) (hts : ∀ w ∈ zW, w.before args s = true) (hown : s.vm.findClass R_Scan = some m.cls) (hK : va_K D classes tys s) (hP : va_P D classes ws H) (hD : va_D A ws) (hS : va_S A H0 H locs) (q0 : Nat) (he : ws[q0]? = some (a, .inr (2, fs))) (hl : 3 < fs.length) (hw : ws.set q0 (a, .inr (2, fs.set 3 (.int x))) = w2) (hdg : decode cc pc = .ok (.putfield 22, 3)) (kk : ∀ (H1 : Heap) (locs1 : List Loc), va_P D classes w2 H1 → va_D A w2 → va_S A H0 H1 locs1 → W p l e R s m args below meth c H1 locs1 cells slots Q (F0 m (pc + 3) ls rest)) : W p l e R s m args below meth c H locs cells slots Q (F0 m pc ls (.int x :: .ref a :: rest)) := by
  subst hw
  exact va_put (ci := 2) (ty := .int) (C := R_Scan) (T := F_Scan) (N := 6) hx hb hts i_Scan t_Scan t_Scan_ok n_Scan hown hK hP hD hS q0 he rfl 3 (by decide) (kf_Scan_22 hts) (fun _ h9 => h9) rfl (by decide +kernel) rfl rfl hl hdg kk
theorem g_DeltaRows_78 {a : Nat} {v : Value} {fs : List Value} (hx : p.tables.exec = Jvm.exec) (hb : c.code = cc) (hts : ∀ w ∈ zW, w.before args s = true) (hown : s.vm.findClass R_DeltaRows = some m.cls) (hK : va_K D classes tys s) (hP : va_P D classes ws H) (q0 : Nat) (he : ws[q0]? = some (a, .inr (2, fs))) (hv : fs[3]? = some v) (hdg : decode cc pc = .ok (.getfield 78, 3)) (kk : W p l e R s m args below meth c H locs cells slots Q (F0 m (pc + 3) ls (v :: rest))) : W p l e R s m args below meth c H locs cells slots Q (F0 m pc ls (.ref a :: rest)) :=
  va_get (ci := 2) (C := R_Scan) (T := F_Scan) (N := 6) hx hb hts i_Scan hown hK hP q0 he rfl 3 (by decide) (kf_DeltaRows_78 hts) (fun _ h9 => h9) hv hdg kk
theorem p_DeltaRows_78 {a : Nat} {x : Int32} {fs : List Value} (hx : p.tables.exec = Jvm.exec) (hb : c.code = cc) (hts : ∀ w ∈ zW, w.before args s = true) (hown : s.vm.findClass R_DeltaRows = some m.cls) (hK : va_K D classes tys s) (hP : va_P D classes ws H) (hD : va_D A ws) (hS : va_S A H0 H locs) (q0 : Nat) (he : ws[q0]? = some (a, .inr (2, fs))) (hl : 3 < fs.length) (hw : ws.set q0 (a, .inr (2, fs.set 3 (.int x))) = w2) (hdg : decode cc pc = .ok (.putfield 78, 3)) (kk : ∀ (H1 : Heap) (locs1 : List Loc), va_P D classes w2 H1 → va_D A w2 → va_S A H0 H1 locs1 → W p l e R s m args below meth c H1 locs1 cells slots Q (F0 m (pc + 3) ls rest)) : W p l e R s m args below meth c H locs cells slots Q (F0 m pc ls (.int x :: .ref a :: rest)) := by
  subst hw
  exact va_put (ci := 2) (ty := .int) (C := R_Scan) (T := F_Scan) (N := 6) hx hb hts i_Scan t_Scan t_Scan_ok n_Scan hown hK hP hD hS q0 he rfl 3 (by decide) (kf_DeltaRows_78 hts) (fun _ h9 => h9) rfl (by decide +kernel) rfl rfl hl hdg kk
theorem g_Scan_25 {a : Nat} {v : Value} {fs : List Value} (hx : p.tables.exec = Jvm.exec) (hb : c.code = cc) (hts : ∀ w ∈ zW, w.before args s = true) (hown : s.vm.findClass R_Scan = some m.cls) (hK : va_K D classes tys s) (hP : va_P D classes ws H) (q0 : Nat) (he : ws[q0]? = some (a, .inr (2, fs))) (hv : fs[4]? = some v) (hdg : decode cc pc = .ok (.getfield 25, 3)) (kk : W p l e R s m args below meth c H locs cells slots Q (F0 m (pc + 3) ls (v :: rest))) : W p l e R s m args below meth c H locs cells slots Q (F0 m pc ls (.ref a :: rest)) :=
  va_get (ci := 2) (C := R_Scan) (T := F_Scan) (N := 6) hx hb hts i_Scan hown hK hP q0 he rfl 4 (by decide) (kf_Scan_25 hts) (fun _ h9 => h9) hv hdg kk
theorem p_Scan_25 {a : Nat} {x : Int32} {fs : List Value} (hx : p.tables.exec = Jvm.exec) (hb : c.code = cc) (hts : ∀ w ∈ zW, w.before args s = true) (hown : s.vm.findClass R_Scan = some m.cls) (hK : va_K D classes tys s) (hP : va_P D classes ws H) (hD : va_D A ws) (hS : va_S A H0 H locs) (q0 : Nat) (he : ws[q0]? = some (a, .inr (2, fs))) (hl : 4 < fs.length) (hw : ws.set q0 (a, .inr (2, fs.set 4 (.int x))) = w2) (hdg : decode cc pc = .ok (.putfield 25, 3)) (kk : ∀ (H1 : Heap) (locs1 : List Loc), va_P D classes w2 H1 → va_D A w2 → va_S A H0 H1 locs1 → W p l e R s m args below meth c H1 locs1 cells slots Q (F0 m (pc + 3) ls rest)) : W p l e R s m args below meth c H locs cells slots Q (F0 m pc ls (.int x :: .ref a :: rest)) := by
  subst hw
  exact va_put (ci := 2) (ty := .int) (C := R_Scan) (T := F_Scan) (N := 6) hx hb hts i_Scan t_Scan t_Scan_ok n_Scan hown hK hP hD hS q0 he rfl 4 (by decide) (kf_Scan_25 hts) (fun _ h9 => h9) rfl (by decide +kernel) rfl rfl hl hdg kk
theorem g_DeltaRows_146 {a : Nat} {v : Value} {fs : List Value} (hx : p.tables.exec = Jvm.exec) (hb : c.code = cc) (hts : ∀ w ∈ zW, w.before args s = true) (hown : s.vm.findClass R_DeltaRows = some m.cls) (hK : va_K D classes tys s) (hP : va_P D classes ws H) (q0 : Nat) (he : ws[q0]? = some (a, .inr (2, fs))) (hv : fs[4]? = some v) (hdg : decode cc pc = .ok (.getfield 146, 3)) (kk : W p l e R s m args below meth c H locs cells slots Q (F0 m (pc + 3) ls (v :: rest))) : W p l e R s m args below meth c H locs cells slots Q (F0 m pc ls (.ref a :: rest)) :=
  va_get (ci := 2) (C := R_Scan) (T := F_Scan) (N := 6) hx hb hts i_Scan hown hK hP q0 he rfl 4 (by decide) (kf_DeltaRows_146 hts) (fun _ h9 => h9) hv hdg kk
theorem p_DeltaRows_146 {a : Nat} {x : Int32} {fs : List Value} (hx : p.tables.exec = Jvm.exec) (hb : c.code = cc) (hts : ∀ w ∈ zW, w.before args s = true) (hown : s.vm.findClass R_DeltaRows = some m.cls) (hK : va_K D classes tys s) (hP : va_P D classes ws H) (hD : va_D A ws) (hS : va_S A H0 H locs) (q0 : Nat) (he : ws[q0]? = some (a, .inr (2, fs))) (hl : 4 < fs.length) (hw : ws.set q0 (a, .inr (2, fs.set 4 (.int x))) = w2) (hdg : decode cc pc = .ok (.putfield 146, 3)) (kk : ∀ (H1 : Heap) (locs1 : List Loc), va_P D classes w2 H1 → va_D A w2 → va_S A H0 H1 locs1 → W p l e R s m args below meth c H1 locs1 cells slots Q (F0 m (pc + 3) ls rest)) : W p l e R s m args below meth c H locs cells slots Q (F0 m pc ls (.int x :: .ref a :: rest)) := by
  subst hw
  exact va_put (ci := 2) (ty := .int) (C := R_Scan) (T := F_Scan) (N := 6) hx hb hts i_Scan t_Scan t_Scan_ok n_Scan hown hK hP hD hS q0 he rfl 4 (by decide) (kf_DeltaRows_146 hts) (fun _ h9 => h9) rfl (by decide +kernel) rfl rfl hl hdg kk
theorem g_Scan_28 {a : Nat} {v : Value} {fs : List Value} (hx : p.tables.exec = Jvm.exec) (hb : c.code = cc) (hts : ∀ w ∈ zW, w.before args s = true) (hown : s.vm.findClass R_Scan = some m.cls) (hK : va_K D classes tys s) (hP : va_P D classes ws H) (q0 : Nat) (he : ws[q0]? = some (a, .inr (2, fs))) (hv : fs[5]? = some v) (hdg : decode cc pc = .ok (.getfield 28, 3)) (kk : W p l e R s m args below meth c H locs cells slots Q (F0 m (pc + 3) ls (v :: rest))) : W p l e R s m args below meth c H locs cells slots Q (F0 m pc ls (.ref a :: rest)) :=
  va_get (ci := 2) (C := R_Scan) (T := F_Scan) (N := 6) hx hb hts i_Scan hown hK hP q0 he rfl 5 (by decide) (kf_Scan_28 hts) (fun _ h9 => h9) hv hdg kk
theorem p_Scan_28 {a : Nat} {x : Int64} {fs : List Value} (hx : p.tables.exec = Jvm.exec) (hb : c.code = cc) (hts : ∀ w ∈ zW, w.before args s = true) (hown : s.vm.findClass R_Scan = some m.cls) (hK : va_K D classes tys s) (hP : va_P D classes ws H) (hD : va_D A ws) (hS : va_S A H0 H locs) (q0 : Nat) (he : ws[q0]? = some (a, .inr (2, fs))) (hl : 5 < fs.length) (hw : ws.set q0 (a, .inr (2, fs.set 5 (.long x))) = w2) (hdg : decode cc pc = .ok (.putfield 28, 3)) (kk : ∀ (H1 : Heap) (locs1 : List Loc), va_P D classes w2 H1 → va_D A w2 → va_S A H0 H1 locs1 → W p l e R s m args below meth c H1 locs1 cells slots Q (F0 m (pc + 3) ls rest)) : W p l e R s m args below meth c H locs cells slots Q (F0 m pc ls (.long x :: .ref a :: rest)) := by
  subst hw
  exact va_put (ci := 2) (ty := .long) (C := R_Scan) (T := F_Scan) (N := 6) hx hb hts i_Scan t_Scan t_Scan_ok n_Scan hown hK hP hD hS q0 he rfl 5 (by decide) (kf_Scan_28 hts) (fun _ h9 => h9) rfl (by decide +kernel) rfl rfl hl hdg kk
theorem g_DeltaRows_149 {a : Nat} {v : Value} {fs : List Value} (hx : p.tables.exec = Jvm.exec) (hb : c.code = cc) (hts : ∀ w ∈ zW, w.before args s = true) (hown : s.vm.findClass R_DeltaRows = some m.cls) (hK : va_K D classes tys s) (hP : va_P D classes ws H) (q0 : Nat) (he : ws[q0]? = some (a, .inr (2, fs))) (hv : fs[5]? = some v) (hdg : decode cc pc = .ok (.getfield 149, 3)) (kk : W p l e R s m args below meth c H locs cells slots Q (F0 m (pc + 3) ls (v :: rest))) : W p l e R s m args below meth c H locs cells slots Q (F0 m pc ls (.ref a :: rest)) :=
  va_get (ci := 2) (C := R_Scan) (T := F_Scan) (N := 6) hx hb hts i_Scan hown hK hP q0 he rfl 5 (by decide) (kf_DeltaRows_149 hts) (fun _ h9 => h9) hv hdg kk
theorem p_DeltaRows_149 {a : Nat} {x : Int64} {fs : List Value} (hx : p.tables.exec = Jvm.exec) (hb : c.code = cc) (hts : ∀ w ∈ zW, w.before args s = true) (hown : s.vm.findClass R_DeltaRows = some m.cls) (hK : va_K D classes tys s) (hP : va_P D classes ws H) (hD : va_D A ws) (hS : va_S A H0 H locs) (q0 : Nat) (he : ws[q0]? = some (a, .inr (2, fs))) (hl : 5 < fs.length) (hw : ws.set q0 (a, .inr (2, fs.set 5 (.long x))) = w2) (hdg : decode cc pc = .ok (.putfield 149, 3)) (kk : ∀ (H1 : Heap) (locs1 : List Loc), va_P D classes w2 H1 → va_D A w2 → va_S A H0 H1 locs1 → W p l e R s m args below meth c H1 locs1 cells slots Q (F0 m (pc + 3) ls rest)) : W p l e R s m args below meth c H locs cells slots Q (F0 m pc ls (.long x :: .ref a :: rest)) := by
  subst hw
  exact va_put (ci := 2) (ty := .long) (C := R_Scan) (T := F_Scan) (N := 6) hx hb hts i_Scan t_Scan t_Scan_ok n_Scan hown hK hP hD hS q0 he rfl 5 (by decide) (kf_DeltaRows_149 hts) (fun _ h9 => h9) rfl (by decide +kernel) rfl rfl hl hdg kk
theorem g_Layout_9 {a : Nat} {v : Value} {fs : List Value} (hx : p.tables.exec = Jvm.exec) (hb : c.code = cc) (hts : ∀ w ∈ zW, w.before args s = true) (hown : s.vm.findClass R_Layout = some m.cls) (hK : va_K D classes tys s) (hP : va_P D classes ws H) (q0 : Nat) (he : ws[q0]? = some (a, .inr (1, fs))) (hv : fs[0]? = some v) (hdg : decode cc pc = .ok (.getfield 9, 3)) (kk : W p l e R s m args below meth c H locs cells slots Q (F0 m (pc + 3) ls (v :: rest))) : W p l e R s m args below meth c H locs cells slots Q (F0 m pc ls (.ref a :: rest)) :=
  va_get (ci := 1) (C := R_Layout) (T := F_Layout) (N := 4) hx hb hts i_Layout hown hK hP q0 he rfl 0 (by decide) (kf_Layout_9 hts) (fun _ h9 => h9) hv hdg kk
theorem p_Layout_9 {a : Nat} {x : Int32} {fs : List Value} (hx : p.tables.exec = Jvm.exec) (hb : c.code = cc) (hts : ∀ w ∈ zW, w.before args s = true) (hown : s.vm.findClass R_Layout = some m.cls) (hK : va_K D classes tys s) (hP : va_P D classes ws H) (hD : va_D A ws) (hS : va_S A H0 H locs) (q0 : Nat) (he : ws[q0]? = some (a, .inr (1, fs))) (hl : 0 < fs.length) (hw : ws.set q0 (a, .inr (1, fs.set 0 (.int x))) = w2) (hdg : decode cc pc = .ok (.putfield 9, 3)) (kk : ∀ (H1 : Heap) (locs1 : List Loc), va_P D classes w2 H1 → va_D A w2 → va_S A H0 H1 locs1 → W p l e R s m args below meth c H1 locs1 cells slots Q (F0 m (pc + 3) ls rest)) : W p l e R s m args below meth c H locs cells slots Q (F0 m pc ls (.int x :: .ref a :: rest)) := by
  subst hw
  exact va_put (ci := 1) (ty := .int) (C := R_Layout) (T := F_Layout) (N := 4) hx hb hts i_Layout t_Layout t_Layout_ok n_Layout hown hK hP hD hS q0 he rfl 0 (by decide) (kf_Layout_9 hts) (fun _ h9 => h9) rfl (by decide +kernel) rfl rfl hl hdg kk
theorem g_Scan_39 {a : Nat} {v : Value} {fs : List Value} (hx : p.tables.exec = Jvm.exec) (hb : c.code = cc) (hts : ∀ w ∈ zW, w.before args s = true) (hown : s.vm.findClass R_Scan = some m.cls) (hK : va_K D classes tys s) (hP : va_P D classes ws H) (q0 : Nat) (he : ws[q0]? = some (a, .inr (1, fs))) (hv : fs[0]? = some v) (hdg : decode cc pc = .ok (.getfield 39, 3)) (kk : W p l e R s m args below meth c H locs cells slots Q (F0 m (pc + 3) ls (v :: rest))) : W p l e R s m args below meth c H locs cells slots Q (F0 m pc ls (.ref a :: rest)) :=
  va_get (ci := 1) (C := R_Layout) (T := F_Layout) (N := 4) hx hb hts i_Layout hown hK hP q0 he rfl 0 (by decide) (kf_Scan_39 hts) (fun _ h9 => h9) hv hdg kk
theorem p_Scan_39 {a : Nat} {x : Int32} {fs : List Value} (hx : p.tables.exec = Jvm.exec) (hb : c.code = cc) (hts : ∀ w ∈ zW, w.before args s = true) (hown : s.vm.findClass R_Scan = some m.cls) (hK : va_K D classes tys s) (hP : va_P D classes ws H) (hD : va_D A ws) (hS : va_S A H0 H locs) (q0 : Nat) (he : ws[q0]? = some (a, .inr (1, fs))) (hl : 0 < fs.length) (hw : ws.set q0 (a, .inr (1, fs.set 0 (.int x))) = w2) (hdg : decode cc pc = .ok (.putfield 39, 3)) (kk : ∀ (H1 : Heap) (locs1 : List Loc), va_P D classes w2 H1 → va_D A w2 → va_S A H0 H1 locs1 → W p l e R s m args below meth c H1 locs1 cells slots Q (F0 m (pc + 3) ls rest)) : W p l e R s m args below meth c H locs cells slots Q (F0 m pc ls (.int x :: .ref a :: rest)) := by
  subst hw
  exact va_put (ci := 1) (ty := .int) (C := R_Layout) (T := F_Layout) (N := 4) hx hb hts i_Layout t_Layout t_Layout_ok n_Layout hown hK hP hD hS q0 he rfl 0 (by decide) (kf_Scan_39 hts) (fun _ h9 => h9) rfl (by decide +kernel) rfl rfl hl hdg kk
theorem g_DeltaRows_59 {a : Nat} {v : Value} {fs : List Value} (hx : p.tables.exec = Jvm.exec) (hb : c.code = cc) (hts : ∀ w ∈ zW, w.before args s = true) (hown : s.vm.findClass R_DeltaRows = some m.cls) (hK : va_K D classes tys s) (hP : va_P D classes ws H) (q0 : Nat) (he : ws[q0]? = some (a, .inr (1, fs))) (hv : fs[0]? = some v) (hdg : decode cc pc = .ok (.getfield 59, 3)) (kk : W p l e R s m args below meth c H locs cells slots Q (F0 m (pc + 3) ls (v :: rest))) : W p l e R s m args below meth c H locs cells slots Q (F0 m pc ls (.ref a :: rest)) :=
  va_get (ci := 1) (C := R_Layout) (T := F_Layout) (N := 4) hx hb hts i_Layout hown hK hP q0 he rfl 0 (by decide) (kf_DeltaRows_59 hts) (fun _ h9 => h9) hv hdg kk
theorem p_DeltaRows_59 {a : Nat} {x : Int32} {fs : List Value} (hx : p.tables.exec = Jvm.exec) (hb : c.code = cc) (hts : ∀ w ∈ zW, w.before args s = true) (hown : s.vm.findClass R_DeltaRows = some m.cls) (hK : va_K D classes tys s) (hP : va_P D classes ws H) (hD : va_D A ws) (hS : va_S A H0 H locs) (q0 : Nat) (he : ws[q0]? = some (a, .inr (1, fs))) (hl : 0 < fs.length) (hw : ws.set q0 (a, .inr (1, fs.set 0 (.int x))) = w2) (hdg : decode cc pc = .ok (.putfield 59, 3)) (kk : ∀ (H1 : Heap) (locs1 : List Loc), va_P D classes w2 H1 → va_D A w2 → va_S A H0 H1 locs1 → W p l e R s m args below meth c H1 locs1 cells slots Q (F0 m (pc + 3) ls rest)) : W p l e R s m args below meth c H locs cells slots Q (F0 m pc ls (.int x :: .ref a :: rest)) := by
  subst hw
  exact va_put (ci := 1) (ty := .int) (C := R_Layout) (T := F_Layout) (N := 4) hx hb hts i_Layout t_Layout t_Layout_ok n_Layout hown hK hP hD hS q0 he rfl 0 (by decide) (kf_DeltaRows_59 hts) (fun _ h9 => h9) rfl (by decide +kernel) rfl rfl hl hdg kk
theorem g_Layout_15 {a : Nat} {v : Value} {fs : List Value} (hx : p.tables.exec = Jvm.exec) (hb : c.code = cc) (hts : ∀ w ∈ zW, w.before args s = true) (hown : s.vm.findClass R_Layout = some m.cls) (hK : va_K D classes tys s) (hP : va_P D classes ws H) (q0 : Nat) (he : ws[q0]? = some (a, .inr (1, fs))) (hv : fs[1]? = some v) (hdg : decode cc pc = .ok (.getfield 15, 3)) (kk : W p l e R s m args below meth c H locs cells slots Q (F0 m (pc + 3) ls (v :: rest))) : W p l e R s m args below meth c H locs cells slots Q (F0 m pc ls (.ref a :: rest)) :=
  va_get (ci := 1) (C := R_Layout) (T := F_Layout) (N := 4) hx hb hts i_Layout hown hK hP q0 he rfl 1 (by decide) (kf_Layout_15 hts) (fun _ h9 => h9) hv hdg kk
theorem p_Layout_15 {a : Nat} {x : Nat} {fs : List Value} (hx : p.tables.exec = Jvm.exec) (hb : c.code = cc) (hts : ∀ w ∈ zW, w.before args s = true) (hown : s.vm.findClass R_Layout = some m.cls) (hnm : meth.name = "<init>") (hK : va_K D classes tys s) (hP : va_P D classes ws H) (hD : va_D A ws) (hS : va_S A H0 H locs) (q0 : Nat) (he : ws[q0]? = some (a, .inr (1, fs))) (hl : 1 < fs.length) (hw : ws.set q0 (a, .inr (1, fs.set 1 (.ref x))) = w2) (hdg : decode cc pc = .ok (.putfield 15, 3)) (kk : ∀ (H1 : Heap) (locs1 : List Loc), va_P D classes w2 H1 → va_D A w2 → va_S A H0 H1 locs1 → W p l e R s m args below meth c H1 locs1 cells slots Q (F0 m (pc + 3) ls rest)) : W p l e R s m args below meth c H locs cells slots Q (F0 m pc ls (.ref x :: .ref a :: rest)) := by
  subst hw
  exact va_putF (ci := 1) (ty := (.array .long)) (C := R_Layout) (T := F_Layout) (N := 4) hx hb hts i_Layout t_Layout t_Layout_ok n_Layout hown hK hP hD hS q0 he rfl 1 (by decide) (kf_Layout_15 hts) (fun _ h9 => h9) rfl hnm rfl (by decide +kernel) rfl rfl hl hdg kk
theorem g_Scan_71 {a : Nat} {v : Value} {fs : List Value} (hx : p.tables.exec = Jvm.exec) (hb : c.code = cc) (hts : ∀ w ∈ zW, w.before args s = true) (hown : s.vm.findClass R_Scan = some m.cls) (hK : va_K D classes tys s) (hP : va_P D classes ws H) (q0 : Nat) (he : ws[q0]? = some (a, .inr (1, fs))) (hv : fs[1]? = some v) (hdg : decode cc pc = .ok (.getfield 71, 3)) (kk : W p l e R s m args below meth c H locs cells slots Q (F0 m (pc + 3) ls (v :: rest))) : W p l e R s m args below meth c H locs cells slots Q (F0 m pc ls (.ref a :: rest)) :=
  va_get (ci := 1) (C := R_Layout) (T := F_Layout) (N := 4) hx hb hts i_Layout hown hK hP q0 he rfl 1 (by decide) (kf_Scan_71 hts) (fun _ h9 => h9) hv hdg kk
theorem g_DeltaRows_98 {a : Nat} {v : Value} {fs : List Value} (hx : p.tables.exec = Jvm.exec) (hb : c.code = cc) (hts : ∀ w ∈ zW, w.before args s = true) (hown : s.vm.findClass R_DeltaRows = some m.cls) (hK : va_K D classes tys s) (hP : va_P D classes ws H) (q0 : Nat) (he : ws[q0]? = some (a, .inr (1, fs))) (hv : fs[1]? = some v) (hdg : decode cc pc = .ok (.getfield 98, 3)) (kk : W p l e R s m args below meth c H locs cells slots Q (F0 m (pc + 3) ls (v :: rest))) : W p l e R s m args below meth c H locs cells slots Q (F0 m pc ls (.ref a :: rest)) :=
  va_get (ci := 1) (C := R_Layout) (T := F_Layout) (N := 4) hx hb hts i_Layout hown hK hP q0 he rfl 1 (by decide) (kf_DeltaRows_98 hts) (fun _ h9 => h9) hv hdg kk
theorem g_Layout_19 {a : Nat} {v : Value} {fs : List Value} (hx : p.tables.exec = Jvm.exec) (hb : c.code = cc) (hts : ∀ w ∈ zW, w.before args s = true) (hown : s.vm.findClass R_Layout = some m.cls) (hK : va_K D classes tys s) (hP : va_P D classes ws H) (q0 : Nat) (he : ws[q0]? = some (a, .inr (1, fs))) (hv : fs[2]? = some v) (hdg : decode cc pc = .ok (.getfield 19, 3)) (kk : W p l e R s m args below meth c H locs cells slots Q (F0 m (pc + 3) ls (v :: rest))) : W p l e R s m args below meth c H locs cells slots Q (F0 m pc ls (.ref a :: rest)) :=
  va_get (ci := 1) (C := R_Layout) (T := F_Layout) (N := 4) hx hb hts i_Layout hown hK hP q0 he rfl 2 (by decide) (kf_Layout_19 hts) (fun _ h9 => h9) hv hdg kk
theorem p_Layout_19 {a : Nat} {x : Nat} {fs : List Value} (hx : p.tables.exec = Jvm.exec) (hb : c.code = cc) (hts : ∀ w ∈ zW, w.before args s = true) (hown : s.vm.findClass R_Layout = some m.cls) (hnm : meth.name = "<init>") (hK : va_K D classes tys s) (hP : va_P D classes ws H) (hD : va_D A ws) (hS : va_S A H0 H locs) (q0 : Nat) (he : ws[q0]? = some (a, .inr (1, fs))) (hl : 2 < fs.length) (hw : ws.set q0 (a, .inr (1, fs.set 2 (.ref x))) = w2) (hdg : decode cc pc = .ok (.putfield 19, 3)) (kk : ∀ (H1 : Heap) (locs1 : List Loc), va_P D classes w2 H1 → va_D A w2 → va_S A H0 H1 locs1 → W p l e R s m args below meth c H1 locs1 cells slots Q (F0 m (pc + 3) ls rest)) : W p l e R s m args below meth c H locs cells slots Q (F0 m pc ls (.ref x :: .ref a :: rest)) := by
  subst hw
  exact va_putF (ci := 1) (ty := (.array .int)) (C := R_Layout) (T := F_Layout) (N := 4) hx hb hts i_Layout t_Layout t_Layout_ok n_Layout hown hK hP hD hS q0 he rfl 2 (by decide) (kf_Layout_19 hts) (fun _ h9 => h9) rfl hnm rfl (by decide +kernel) rfl rfl hl hdg kk
theorem g_Scan_75 {a : Nat} {v : Value} {fs : List Value} (hx : p.tables.exec = Jvm.exec) (hb : c.code = cc) (hts : ∀ w ∈ zW, w.before args s = true) (hown : s.vm.findClass R_Scan = some m.cls) (hK : va_K D classes tys s) (hP : va_P D classes ws H) (q0 : Nat) (he : ws[q0]? = some (a, .inr (1, fs))) (hv : fs[2]? = some v) (hdg : decode cc pc = .ok (.getfield 75, 3)) (kk : W p l e R s m args below meth c H locs cells slots Q (F0 m (pc + 3) ls (v :: rest))) : W p l e R s m args below meth c H locs cells slots Q (F0 m pc ls (.ref a :: rest)) :=
  va_get (ci := 1) (C := R_Layout) (T := F_Layout) (N := 4) hx hb hts i_Layout hown hK hP q0 he rfl 2 (by decide) (kf_Scan_75 hts) (fun _ h9 => h9) hv hdg kk
theorem g_DeltaRows_105 {a : Nat} {v : Value} {fs : List Value} (hx : p.tables.exec = Jvm.exec) (hb : c.code = cc) (hts : ∀ w ∈ zW, w.before args s = true) (hown : s.vm.findClass R_DeltaRows = some m.cls) (hK : va_K D classes tys s) (hP : va_P D classes ws H) (q0 : Nat) (he : ws[q0]? = some (a, .inr (1, fs))) (hv : fs[2]? = some v) (hdg : decode cc pc = .ok (.getfield 105, 3)) (kk : W p l e R s m args below meth c H locs cells slots Q (F0 m (pc + 3) ls (v :: rest))) : W p l e R s m args below meth c H locs cells slots Q (F0 m pc ls (.ref a :: rest)) :=
  va_get (ci := 1) (C := R_Layout) (T := F_Layout) (N := 4) hx hb hts i_Layout hown hK hP q0 he rfl 2 (by decide) (kf_DeltaRows_105 hts) (fun _ h9 => h9) hv hdg kk
theorem g_Layout_23 {a : Nat} {v : Value} {fs : List Value} (hx : p.tables.exec = Jvm.exec) (hb : c.code = cc) (hts : ∀ w ∈ zW, w.before args s = true) (hown : s.vm.findClass R_Layout = some m.cls) (hK : va_K D classes tys s) (hP : va_P D classes ws H) (q0 : Nat) (he : ws[q0]? = some (a, .inr (1, fs))) (hv : fs[3]? = some v) (hdg : decode cc pc = .ok (.getfield 23, 3)) (kk : W p l e R s m args below meth c H locs cells slots Q (F0 m (pc + 3) ls (v :: rest))) : W p l e R s m args below meth c H locs cells slots Q (F0 m pc ls (.ref a :: rest)) :=
  va_get (ci := 1) (C := R_Layout) (T := F_Layout) (N := 4) hx hb hts i_Layout hown hK hP q0 he rfl 3 (by decide) (kf_Layout_23 hts) (fun _ h9 => h9) hv hdg kk
theorem p_Layout_23 {a : Nat} {x : Nat} {fs : List Value} (hx : p.tables.exec = Jvm.exec) (hb : c.code = cc) (hts : ∀ w ∈ zW, w.before args s = true) (hown : s.vm.findClass R_Layout = some m.cls) (hnm : meth.name = "<init>") (hK : va_K D classes tys s) (hP : va_P D classes ws H) (hD : va_D A ws) (hS : va_S A H0 H locs) (q0 : Nat) (he : ws[q0]? = some (a, .inr (1, fs))) (hl : 3 < fs.length) (hw : ws.set q0 (a, .inr (1, fs.set 3 (.ref x))) = w2) (hdg : decode cc pc = .ok (.putfield 23, 3)) (kk : ∀ (H1 : Heap) (locs1 : List Loc), va_P D classes w2 H1 → va_D A w2 → va_S A H0 H1 locs1 → W p l e R s m args below meth c H1 locs1 cells slots Q (F0 m (pc + 3) ls rest)) : W p l e R s m args below meth c H locs cells slots Q (F0 m pc ls (.ref x :: .ref a :: rest)) := by
  subst hw
  exact va_putF (ci := 1) (ty := (.array .int)) (C := R_Layout) (T := F_Layout) (N := 4) hx hb hts i_Layout t_Layout t_Layout_ok n_Layout hown hK hP hD hS q0 he rfl 3 (by decide) (kf_Layout_23 hts) (fun _ h9 => h9) rfl hnm rfl (by decide +kernel) rfl rfl hl hdg kk
theorem g_Scan_86 {a : Nat} {v : Value} {fs : List Value} (hx : p.tables.exec = Jvm.exec) (hb : c.code = cc) (hts : ∀ w ∈ zW, w.before args s = true) (hown : s.vm.findClass R_Scan = some m.cls) (hK : va_K D classes tys s) (hP : va_P D classes ws H) (q0 : Nat) (he : ws[q0]? = some (a, .inr (1, fs))) (hv : fs[3]? = some v) (hdg : decode cc pc = .ok (.getfield 86, 3)) (kk : W p l e R s m args below meth c H locs cells slots Q (F0 m (pc + 3) ls (v :: rest))) : W p l e R s m args below meth c H locs cells slots Q (F0 m pc ls (.ref a :: rest)) :=
  va_get (ci := 1) (C := R_Layout) (T := F_Layout) (N := 4) hx hb hts i_Layout hown hK hP q0 he rfl 3 (by decide) (kf_Scan_86 hts) (fun _ h9 => h9) hv hdg kk
theorem g_DeltaRows_109 {a : Nat} {v : Value} {fs : List Value} (hx : p.tables.exec = Jvm.exec) (hb : c.code = cc) (hts : ∀ w ∈ zW, w.before args s = true) (hown : s.vm.findClass R_DeltaRows = some m.cls) (hK : va_K D classes tys s) (hP : va_P D classes ws H) (q0 : Nat) (he : ws[q0]? = some (a, .inr (1, fs))) (hv : fs[3]? = some v) (hdg : decode cc pc = .ok (.getfield 109, 3)) (kk : W p l e R s m args below meth c H locs cells slots Q (F0 m (pc + 3) ls (v :: rest))) : W p l e R s m args below meth c H locs cells slots Q (F0 m pc ls (.ref a :: rest)) :=
  va_get (ci := 1) (C := R_Layout) (T := F_Layout) (N := 4) hx hb hts i_Layout hown hK hP q0 he rfl 3 (by decide) (kf_DeltaRows_109 hts) (fun _ h9 => h9) hv hdg kk
theorem g_DeltaRows_9 {a : Nat} {v : Value} {fs : List Value} (hx : p.tables.exec = Jvm.exec) (hb : c.code = cc) (hts : ∀ w ∈ zW, w.before args s = true) (hown : s.vm.findClass R_DeltaRows = some m.cls) (hK : va_K D classes tys s) (hP : va_P D classes ws H) (q0 : Nat) (he : ws[q0]? = some (a, .inr (3, fs))) (hv : fs[0]? = some v) (hdg : decode cc pc = .ok (.getfield 9, 3)) (kk : W p l e R s m args below meth c H locs cells slots Q (F0 m (pc + 3) ls (v :: rest))) : W p l e R s m args below meth c H locs cells slots Q (F0 m pc ls (.ref a :: rest)) :=
  va_get (ci := 3) (C := R_DeltaRows) (T := F_DeltaRows) (N := 6) hx hb hts i_DeltaRows hown hK hP q0 he rfl 0 (by decide) (kf_DeltaRows_9 hts) (fun _ h9 => h9) hv hdg kk
theorem p_DeltaRows_9 {a : Nat} {x : Nat} {fs : List Value} (hx : p.tables.exec = Jvm.exec) (hb : c.code = cc) (hts : ∀ w ∈ zW, w.before args s = true) (hown : s.vm.findClass R_DeltaRows = some m.cls) (hnm : meth.name = "<init>") (hK : va_K D classes tys s) (hP : va_P D classes ws H) (hD : va_D A ws) (hS : va_S A H0 H locs) (q0 : Nat) (he : ws[q0]? = some (a, .inr (3, fs))) (hl : 0 < fs.length) (hw : ws.set q0 (a, .inr (3, fs.set 0 (.ref x))) = w2) (hdg : decode cc pc = .ok (.putfield 9, 3)) (kk : ∀ (H1 : Heap) (locs1 : List Loc), va_P D classes w2 H1 → va_D A w2 → va_S A H0 H1 locs1 → W p l e R s m args below meth c H1 locs1 cells slots Q (F0 m (pc + 3) ls rest)) : W p l e R s m args below meth c H locs cells slots Q (F0 m pc ls (.ref x :: .ref a :: rest)) := by
  subst hw
  exact va_putF (ci := 3) (ty := (.array .long)) (C := R_DeltaRows) (T := F_DeltaRows) (N := 6) hx hb hts i_DeltaRows t_DeltaRows t_DeltaRows_ok n_DeltaRows hown hK hP hD hS q0 he rfl 0 (by decide) (kf_DeltaRows_9 hts) (fun _ h9 => h9) rfl hnm rfl (by decide +kernel) rfl rfl hl hdg kk
theorem g_DeltaRows_13 {a : Nat} {v : Value} {fs : List Value} (hx : p.tables.exec = Jvm.exec) (hb : c.code = cc) (hts : ∀ w ∈ zW, w.before args s = true) (hown : s.vm.findClass R_DeltaRows = some m.cls) (hK : va_K D classes tys s) (hP : va_P D classes ws H) (q0 : Nat) (he : ws[q0]? = some (a, .inr (3, fs))) (hv : fs[1]? = some v) (hdg : decode cc pc = .ok (.getfield 13, 3)) (kk : W p l e R s m args below meth c H locs cells slots Q (F0 m (pc + 3) ls (v :: rest))) : W p l e R s m args below meth c H locs cells slots Q (F0 m pc ls (.ref a :: rest)) :=
  va_get (ci := 3) (C := R_DeltaRows) (T := F_DeltaRows) (N := 6) hx hb hts i_DeltaRows hown hK hP q0 he rfl 1 (by decide) (kf_DeltaRows_13 hts) (fun _ h9 => h9) hv hdg kk
theorem p_DeltaRows_13 {a : Nat} {x : Int32} {fs : List Value} (hx : p.tables.exec = Jvm.exec) (hb : c.code = cc) (hts : ∀ w ∈ zW, w.before args s = true) (hown : s.vm.findClass R_DeltaRows = some m.cls) (hK : va_K D classes tys s) (hP : va_P D classes ws H) (hD : va_D A ws) (hS : va_S A H0 H locs) (q0 : Nat) (he : ws[q0]? = some (a, .inr (3, fs))) (hl : 1 < fs.length) (hw : ws.set q0 (a, .inr (3, fs.set 1 (.int x))) = w2) (hdg : decode cc pc = .ok (.putfield 13, 3)) (kk : ∀ (H1 : Heap) (locs1 : List Loc), va_P D classes w2 H1 → va_D A w2 → va_S A H0 H1 locs1 → W p l e R s m args below meth c H1 locs1 cells slots Q (F0 m (pc + 3) ls rest)) : W p l e R s m args below meth c H locs cells slots Q (F0 m pc ls (.int x :: .ref a :: rest)) := by
  subst hw
  exact va_put (ci := 3) (ty := .int) (C := R_DeltaRows) (T := F_DeltaRows) (N := 6) hx hb hts i_DeltaRows t_DeltaRows t_DeltaRows_ok n_DeltaRows hown hK hP hD hS q0 he rfl 1 (by decide) (kf_DeltaRows_13 hts) (fun _ h9 => h9) rfl (by decide +kernel) rfl rfl hl hdg kk
theorem g_DeltaRows_20 {a : Nat} {v : Value} {fs : List Value} (hx : p.tables.exec = Jvm.exec) (hb : c.code = cc) (hts : ∀ w ∈ zW, w.before args s = true) (hown : s.vm.findClass R_DeltaRows = some m.cls) (hK : va_K D classes tys s) (hP : va_P D classes ws H) (q0 : Nat) (he : ws[q0]? = some (a, .inr (3, fs))) (hv : fs[2]? = some v) (hdg : decode cc pc = .ok (.getfield 20, 3)) (kk : W p l e R s m args below meth c H locs cells slots Q (F0 m (pc + 3) ls (v :: rest))) : W p l e R s m args below meth c H locs cells slots Q (F0 m pc ls (.ref a :: rest)) :=
  va_get (ci := 3) (C := R_DeltaRows) (T := F_DeltaRows) (N := 6) hx hb hts i_DeltaRows hown hK hP q0 he rfl 2 (by decide) (kf_DeltaRows_20 hts) (fun _ h9 => h9) hv hdg kk
theorem p_DeltaRows_20 {a : Nat} {x : Nat} {fs : List Value} (hx : p.tables.exec = Jvm.exec) (hb : c.code = cc) (hts : ∀ w ∈ zW, w.before args s = true) (hown : s.vm.findClass R_DeltaRows = some m.cls) (hnm : meth.name = "<init>") (hK : va_K D classes tys s) (hP : va_P D classes ws H) (hD : va_D A ws) (hS : va_S A H0 H locs) (q0 : Nat) (he : ws[q0]? = some (a, .inr (3, fs))) (hl : 2 < fs.length) (hw : ws.set q0 (a, .inr (3, fs.set 2 (.ref x))) = w2) (hdg : decode cc pc = .ok (.putfield 20, 3)) (kk : ∀ (H1 : Heap) (locs1 : List Loc), va_P D classes w2 H1 → va_D A w2 → va_S A H0 H1 locs1 → W p l e R s m args below meth c H1 locs1 cells slots Q (F0 m (pc + 3) ls rest)) : W p l e R s m args below meth c H locs cells slots Q (F0 m pc ls (.ref x :: .ref a :: rest)) := by
  subst hw
  exact va_putF (ci := 3) (ty := (.object "DeltaRows$ByteRow")) (C := R_DeltaRows) (T := F_DeltaRows) (N := 6) hx hb hts i_DeltaRows t_DeltaRows t_DeltaRows_ok n_DeltaRows hown hK hP hD hS q0 he rfl 2 (by decide) (kf_DeltaRows_20 hts) (fun _ h9 => h9) rfl hnm rfl (by decide +kernel) rfl rfl hl hdg kk
theorem g_DeltaRows_29 {a : Nat} {v : Value} {fs : List Value} (hx : p.tables.exec = Jvm.exec) (hb : c.code = cc) (hts : ∀ w ∈ zW, w.before args s = true) (hown : s.vm.findClass R_DeltaRows = some m.cls) (hK : va_K D classes tys s) (hP : va_P D classes ws H) (q0 : Nat) (he : ws[q0]? = some (a, .inr (3, fs))) (hv : fs[3]? = some v) (hdg : decode cc pc = .ok (.getfield 29, 3)) (kk : W p l e R s m args below meth c H locs cells slots Q (F0 m (pc + 3) ls (v :: rest))) : W p l e R s m args below meth c H locs cells slots Q (F0 m pc ls (.ref a :: rest)) :=
  va_get (ci := 3) (C := R_DeltaRows) (T := F_DeltaRows) (N := 6) hx hb hts i_DeltaRows hown hK hP q0 he rfl 3 (by decide) (kf_DeltaRows_29 hts) (fun _ h9 => h9) hv hdg kk
theorem p_DeltaRows_29 {a : Nat} {x : Nat} {fs : List Value} (hx : p.tables.exec = Jvm.exec) (hb : c.code = cc) (hts : ∀ w ∈ zW, w.before args s = true) (hown : s.vm.findClass R_DeltaRows = some m.cls) (hnm : meth.name = "<init>") (hK : va_K D classes tys s) (hP : va_P D classes ws H) (hD : va_D A ws) (hS : va_S A H0 H locs) (q0 : Nat) (he : ws[q0]? = some (a, .inr (3, fs))) (hl : 3 < fs.length) (hw : ws.set q0 (a, .inr (3, fs.set 3 (.ref x))) = w2) (hdg : decode cc pc = .ok (.putfield 29, 3)) (kk : ∀ (H1 : Heap) (locs1 : List Loc), va_P D classes w2 H1 → va_D A w2 → va_S A H0 H1 locs1 → W p l e R s m args below meth c H1 locs1 cells slots Q (F0 m (pc + 3) ls rest)) : W p l e R s m args below meth c H locs cells slots Q (F0 m pc ls (.ref x :: .ref a :: rest)) := by
  subst hw
  exact va_putF (ci := 3) (ty := (.object "DeltaRows$Scan")) (C := R_DeltaRows) (T := F_DeltaRows) (N := 6) hx hb hts i_DeltaRows t_DeltaRows t_DeltaRows_ok n_DeltaRows hown hK hP hD hS q0 he rfl 3 (by decide) (kf_DeltaRows_29 hts) (fun _ h9 => h9) rfl hnm rfl (by decide +kernel) rfl rfl hl hdg kk
theorem g_DeltaRows_36 {a : Nat} {v : Value} {fs : List Value} (hx : p.tables.exec = Jvm.exec) (hb : c.code = cc) (hts : ∀ w ∈ zW, w.before args s = true) (hown : s.vm.findClass R_DeltaRows = some m.cls) (hK : va_K D classes tys s) (hP : va_P D classes ws H) (q0 : Nat) (he : ws[q0]? = some (a, .inr (3, fs))) (hv : fs[4]? = some v) (hdg : decode cc pc = .ok (.getfield 36, 3)) (kk : W p l e R s m args below meth c H locs cells slots Q (F0 m (pc + 3) ls (v :: rest))) : W p l e R s m args below meth c H locs cells slots Q (F0 m pc ls (.ref a :: rest)) :=
  va_get (ci := 3) (C := R_DeltaRows) (T := F_DeltaRows) (N := 6) hx hb hts i_DeltaRows hown hK hP q0 he rfl 4 (by decide) (kf_DeltaRows_36 hts) (fun _ h9 => h9) hv hdg kk
theorem p_DeltaRows_36 {a : Nat} {x : Nat} {fs : List Value} (hx : p.tables.exec = Jvm.exec) (hb : c.code = cc) (hts : ∀ w ∈ zW, w.before args s = true) (hown : s.vm.findClass R_DeltaRows = some m.cls) (hK : va_K D classes tys s) (hP : va_P D classes ws H) (hD : va_D A ws) (hS : va_S A H0 H locs) (q0 : Nat) (he : ws[q0]? = some (a, .inr (3, fs))) (hl : 4 < fs.length) (hw : ws.set q0 (a, .inr (3, fs.set 4 (.ref x))) = w2) (hdg : decode cc pc = .ok (.putfield 36, 3)) (kk : ∀ (H1 : Heap) (locs1 : List Loc), va_P D classes w2 H1 → va_D A w2 → va_S A H0 H1 locs1 → W p l e R s m args below meth c H1 locs1 cells slots Q (F0 m (pc + 3) ls rest)) : W p l e R s m args below meth c H locs cells slots Q (F0 m pc ls (.ref x :: .ref a :: rest)) := by
  subst hw
  exact va_put (ci := 3) (ty := (.object "DeltaRows$Layout")) (C := R_DeltaRows) (T := F_DeltaRows) (N := 6) hx hb hts i_DeltaRows t_DeltaRows t_DeltaRows_ok n_DeltaRows hown hK hP hD hS q0 he rfl 4 (by decide) (kf_DeltaRows_36 hts) (fun _ h9 => h9) rfl (by decide +kernel) rfl rfl hl hdg kk
theorem g_DeltaRows_40 {a : Nat} {v : Value} {fs : List Value} (hx : p.tables.exec = Jvm.exec) (hb : c.code = cc) (hts : ∀ w ∈ zW, w.before args s = true) (hown : s.vm.findClass R_DeltaRows = some m.cls) (hK : va_K D classes tys s) (hP : va_P D classes ws H) (q0 : Nat) (he : ws[q0]? = some (a, .inr (3, fs))) (hv : fs[5]? = some v) (hdg : decode cc pc = .ok (.getfield 40, 3)) (kk : W p l e R s m args below meth c H locs cells slots Q (F0 m (pc + 3) ls (v :: rest))) : W p l e R s m args below meth c H locs cells slots Q (F0 m pc ls (.ref a :: rest)) :=
  va_get (ci := 3) (C := R_DeltaRows) (T := F_DeltaRows) (N := 6) hx hb hts i_DeltaRows hown hK hP q0 he rfl 5 (by decide) (kf_DeltaRows_40 hts) (fun _ h9 => h9) hv hdg kk
theorem p_DeltaRows_40 {a : Nat} {x : Nat} {fs : List Value} (hx : p.tables.exec = Jvm.exec) (hb : c.code = cc) (hts : ∀ w ∈ zW, w.before args s = true) (hown : s.vm.findClass R_DeltaRows = some m.cls) (hK : va_K D classes tys s) (hP : va_P D classes ws H) (hD : va_D A ws) (hS : va_S A H0 H locs) (q0 : Nat) (he : ws[q0]? = some (a, .inr (3, fs))) (hl : 5 < fs.length) (hw : ws.set q0 (a, .inr (3, fs.set 5 (.ref x))) = w2) (hdg : decode cc pc = .ok (.putfield 40, 3)) (kk : ∀ (H1 : Heap) (locs1 : List Loc), va_P D classes w2 H1 → va_D A w2 → va_S A H0 H1 locs1 → W p l e R s m args below meth c H1 locs1 cells slots Q (F0 m (pc + 3) ls rest)) : W p l e R s m args below meth c H locs cells slots Q (F0 m pc ls (.ref x :: .ref a :: rest)) := by
  subst hw
  exact va_put (ci := 3) (ty := (.object "DeltaRows$Layout")) (C := R_DeltaRows) (T := F_DeltaRows) (N := 6) hx hb hts i_DeltaRows t_DeltaRows t_DeltaRows_ok n_DeltaRows hown hK hP hD hS q0 he rfl 5 (by decide) (kf_DeltaRows_40 hts) (fun _ h9 => h9) rfl (by decide +kernel) rfl rfl hl hdg kk
theorem g_Model_42 {a : Nat} {v : Value} {fs : List Value} (hx : p.tables.exec = Jvm.exec) (hb : c.code = cc) (hts : ∀ w ∈ zW, w.before args s = true) (hown : s.vm.findClass R_Model = some m.cls) (hK : va_K D classes tys s) (hP : va_P D classes ws H) (q0 : Nat) (he : ws[q0]? = some (a, .inr (4, fs))) (hv : fs[0]? = some v) (hdg : decode cc pc = .ok (.getfield 42, 3)) (kk : W p l e R s m args below meth c H locs cells slots Q (F0 m (pc + 3) ls (v :: rest))) : W p l e R s m args below meth c H locs cells slots Q (F0 m pc ls (.ref a :: rest)) :=
  va_get (ci := 4) (C := R_Model) (T := F_Model) (N := 16) hx hb hts i_Model hown hK hP q0 he rfl 0 (by decide) (kf_Model_42 hts) (fun _ h9 => h9) hv hdg kk
theorem p_Model_42 {a : Nat} {x : Int32} {fs : List Value} (hx : p.tables.exec = Jvm.exec) (hb : c.code = cc) (hts : ∀ w ∈ zW, w.before args s = true) (hown : s.vm.findClass R_Model = some m.cls) (hK : va_K D classes tys s) (hP : va_P D classes ws H) (hD : va_D A ws) (hS : va_S A H0 H locs) (q0 : Nat) (he : ws[q0]? = some (a, .inr (4, fs))) (hl : 0 < fs.length) (hw : ws.set q0 (a, .inr (4, fs.set 0 (.int x))) = w2) (hdg : decode cc pc = .ok (.putfield 42, 3)) (kk : ∀ (H1 : Heap) (locs1 : List Loc), va_P D classes w2 H1 → va_D A w2 → va_S A H0 H1 locs1 → W p l e R s m args below meth c H1 locs1 cells slots Q (F0 m (pc + 3) ls rest)) : W p l e R s m args below meth c H locs cells slots Q (F0 m pc ls (.int x :: .ref a :: rest)) := by
  subst hw
  exact va_put (ci := 4) (ty := .int) (C := R_Model) (T := F_Model) (N := 16) hx hb hts i_Model t_Model t_Model_ok n_Model hown hK hP hD hS q0 he rfl 0 (by decide) (kf_Model_42 hts) (fun _ h9 => h9) rfl (by decide +kernel) rfl rfl hl hdg kk
theorem g_Model_7 {a : Nat} {v : Value} {fs : List Value} (hx : p.tables.exec = Jvm.exec) (hb : c.code = cc) (hts : ∀ w ∈ zW, w.before args s = true) (hown : s.vm.findClass R_Model = some m.cls) (hK : va_K D classes tys s) (hP : va_P D classes ws H) (q0 : Nat) (he : ws[q0]? = some (a, .inr (4, fs))) (hv : fs[1]? = some v) (hdg : decode cc pc = .ok (.getfield 7, 3)) (kk : W p l e R s m args below meth c H locs cells slots Q (F0 m (pc + 3) ls (v :: rest))) : W p l e R s m args below meth c H locs cells slots Q (F0 m pc ls (.ref a :: rest)) :=
  va_get (ci := 4) (C := R_Model) (T := F_Model) (N := 16) hx hb hts i_Model hown hK hP q0 he rfl 1 (by decide) (kf_Model_7 hts) (fun _ h9 => h9) hv hdg kk
theorem p_Model_7 {a : Nat} {x : Nat} {fs : List Value} (hx : p.tables.exec = Jvm.exec) (hb : c.code = cc) (hts : ∀ w ∈ zW, w.before args s = true) (hown : s.vm.findClass R_Model = some m.cls) (hnm : meth.name = "<init>") (hK : va_K D classes tys s) (hP : va_P D classes ws H) (hD : va_D A ws) (hS : va_S A H0 H locs) (q0 : Nat) (he : ws[q0]? = some (a, .inr (4, fs))) (hl : 1 < fs.length) (hw : ws.set q0 (a, .inr (4, fs.set 1 (.ref x))) = w2) (hdg : decode cc pc = .ok (.putfield 7, 3)) (kk : ∀ (H1 : Heap) (locs1 : List Loc), va_P D classes w2 H1 → va_D A w2 → va_S A H0 H1 locs1 → W p l e R s m args below meth c H1 locs1 cells slots Q (F0 m (pc + 3) ls rest)) : W p l e R s m args below meth c H locs cells slots Q (F0 m pc ls (.ref x :: .ref a :: rest)) := by
  subst hw
  exact va_putF (ci := 4) (ty := (.array .long)) (C := R_Model) (T := F_Model) (N := 16) hx hb hts i_Model t_Model t_Model_ok n_Model hown hK hP hD hS q0 he rfl 1 (by decide) (kf_Model_7 hts) (fun _ h9 => h9) rfl hnm rfl (by decide +kernel) rfl rfl hl hdg kk
theorem g_Model_13 {a : Nat} {v : Value} {fs : List Value} (hx : p.tables.exec = Jvm.exec) (hb : c.code = cc) (hts : ∀ w ∈ zW, w.before args s = true) (hown : s.vm.findClass R_Model = some m.cls) (hK : va_K D classes tys s) (hP : va_P D classes ws H) (q0 : Nat) (he : ws[q0]? = some (a, .inr (4, fs))) (hv : fs[2]? = some v) (hdg : decode cc pc = .ok (.getfield 13, 3)) (kk : W p l e R s m args below meth c H locs cells slots Q (F0 m (pc + 3) ls (v :: rest))) : W p l e R s m args below meth c H locs cells slots Q (F0 m pc ls (.ref a :: rest)) :=
  va_get (ci := 4) (C := R_Model) (T := F_Model) (N := 16) hx hb hts i_Model hown hK hP q0 he rfl 2 (by decide) (kf_Model_13 hts) (fun _ h9 => h9) hv hdg kk
theorem p_Model_13 {a : Nat} {x : Nat} {fs : List Value} (hx : p.tables.exec = Jvm.exec) (hb : c.code = cc) (hts : ∀ w ∈ zW, w.before args s = true) (hown : s.vm.findClass R_Model = some m.cls) (hnm : meth.name = "<init>") (hK : va_K D classes tys s) (hP : va_P D classes ws H) (hD : va_D A ws) (hS : va_S A H0 H locs) (q0 : Nat) (he : ws[q0]? = some (a, .inr (4, fs))) (hl : 2 < fs.length) (hw : ws.set q0 (a, .inr (4, fs.set 2 (.ref x))) = w2) (hdg : decode cc pc = .ok (.putfield 13, 3)) (kk : ∀ (H1 : Heap) (locs1 : List Loc), va_P D classes w2 H1 → va_D A w2 → va_S A H0 H1 locs1 → W p l e R s m args below meth c H1 locs1 cells slots Q (F0 m (pc + 3) ls rest)) : W p l e R s m args below meth c H locs cells slots Q (F0 m pc ls (.ref x :: .ref a :: rest)) := by
  subst hw
  exact va_putF (ci := 4) (ty := (.array .long)) (C := R_Model) (T := F_Model) (N := 16) hx hb hts i_Model t_Model t_Model_ok n_Model hown hK hP hD hS q0 he rfl 2 (by decide) (kf_Model_13 hts) (fun _ h9 => h9) rfl hnm rfl (by decide +kernel) rfl rfl hl hdg kk
theorem g_Model_45 {a : Nat} {v : Value} {fs : List Value} (hx : p.tables.exec = Jvm.exec) (hb : c.code = cc) (hts : ∀ w ∈ zW, w.before args s = true) (hown : s.vm.findClass R_Model = some m.cls) (hK : va_K D classes tys s) (hP : va_P D classes ws H) (q0 : Nat) (he : ws[q0]? = some (a, .inr (4, fs))) (hv : fs[3]? = some v) (hdg : decode cc pc = .ok (.getfield 45, 3)) (kk : W p l e R s m args below meth c H locs cells slots Q (F0 m (pc + 3) ls (v :: rest))) : W p l e R s m args below meth c H locs cells slots Q (F0 m pc ls (.ref a :: rest)) :=
  va_get (ci := 4) (C := R_Model) (T := F_Model) (N := 16) hx hb hts i_Model hown hK hP q0 he rfl 3 (by decide) (kf_Model_45 hts) (fun _ h9 => h9) hv hdg kk
theorem p_Model_45 {a : Nat} {x : Int32} {fs : List Value} (hx : p.tables.exec = Jvm.exec) (hb : c.code = cc) (hts : ∀ w ∈ zW, w.before args s = true) (hown : s.vm.findClass R_Model = some m.cls) (hK : va_K D classes tys s) (hP : va_P D classes ws H) (hD : va_D A ws) (hS : va_S A H0 H locs) (q0 : Nat) (he : ws[q0]? = some (a, .inr (4, fs))) (hl : 3 < fs.length) (hw : ws.set q0 (a, .inr (4, fs.set 3 (.int x))) = w2) (hdg : decode cc pc = .ok (.putfield 45, 3)) (kk : ∀ (H1 : Heap) (locs1 : List Loc), va_P D classes w2 H1 → va_D A w2 → va_S A H0 H1 locs1 → W p l e R s m args below meth c H1 locs1 cells slots Q (F0 m (pc + 3) ls rest)) : W p l e R s m args below meth c H locs cells slots Q (F0 m pc ls (.int x :: .ref a :: rest)) := by
  subst hw
  exact va_put (ci := 4) (ty := .int) (C := R_Model) (T := F_Model) (N := 16) hx hb hts i_Model t_Model t_Model_ok n_Model hown hK hP hD hS q0 he rfl 3 (by decide) (kf_Model_45 hts) (fun _ h9 => h9) rfl (by decide +kernel) rfl rfl hl hdg kk
theorem g_Model_16 {a : Nat} {v : Value} {fs : List Value} (hx : p.tables.exec = Jvm.exec) (hb : c.code = cc) (hts : ∀ w ∈ zW, w.before args s = true) (hown : s.vm.findClass R_Model = some m.cls) (hK : va_K D classes tys s) (hP : va_P D classes ws H) (q0 : Nat) (he : ws[q0]? = some (a, .inr (4, fs))) (hv : fs[4]? = some v) (hdg : decode cc pc = .ok (.getfield 16, 3)) (kk : W p l e R s m args below meth c H locs cells slots Q (F0 m (pc + 3) ls (v :: rest))) : W p l e R s m args below meth c H locs cells slots Q (F0 m pc ls (.ref a :: rest)) :=
  va_get (ci := 4) (C := R_Model) (T := F_Model) (N := 16) hx hb hts i_Model hown hK hP q0 he rfl 4 (by decide) (kf_Model_16 hts) (fun _ h9 => h9) hv hdg kk
theorem p_Model_16 {a : Nat} {x : Nat} {fs : List Value} (hx : p.tables.exec = Jvm.exec) (hb : c.code = cc) (hts : ∀ w ∈ zW, w.before args s = true) (hown : s.vm.findClass R_Model = some m.cls) (hnm : meth.name = "<init>") (hK : va_K D classes tys s) (hP : va_P D classes ws H) (hD : va_D A ws) (hS : va_S A H0 H locs) (q0 : Nat) (he : ws[q0]? = some (a, .inr (4, fs))) (hl : 4 < fs.length) (hw : ws.set q0 (a, .inr (4, fs.set 4 (.ref x))) = w2) (hdg : decode cc pc = .ok (.putfield 16, 3)) (kk : ∀ (H1 : Heap) (locs1 : List Loc), va_P D classes w2 H1 → va_D A w2 → va_S A H0 H1 locs1 → W p l e R s m args below meth c H1 locs1 cells slots Q (F0 m (pc + 3) ls rest)) : W p l e R s m args below meth c H locs cells slots Q (F0 m pc ls (.ref x :: .ref a :: rest)) := by
  subst hw
  exact va_putF (ci := 4) (ty := (.array .int)) (C := R_Model) (T := F_Model) (N := 16) hx hb hts i_Model t_Model t_Model_ok n_Model hown hK hP hD hS q0 he rfl 4 (by decide) (kf_Model_16 hts) (fun _ h9 => h9) rfl hnm rfl (by decide +kernel) rfl rfl hl hdg kk
theorem g_Model_48 {a : Nat} {v : Value} {fs : List Value} (hx : p.tables.exec = Jvm.exec) (hb : c.code = cc) (hts : ∀ w ∈ zW, w.before args s = true) (hown : s.vm.findClass R_Model = some m.cls) (hK : va_K D classes tys s) (hP : va_P D classes ws H) (q0 : Nat) (he : ws[q0]? = some (a, .inr (4, fs))) (hv : fs[5]? = some v) (hdg : decode cc pc = .ok (.getfield 48, 3)) (kk : W p l e R s m args below meth c H locs cells slots Q (F0 m (pc + 3) ls (v :: rest))) : W p l e R s m args below meth c H locs cells slots Q (F0 m pc ls (.ref a :: rest)) :=
  va_get (ci := 4) (C := R_Model) (T := F_Model) (N := 16) hx hb hts i_Model hown hK hP q0 he rfl 5 (by decide) (kf_Model_48 hts) (fun _ h9 => h9) hv hdg kk
theorem p_Model_48 {a : Nat} {x : Int32} {fs : List Value} (hx : p.tables.exec = Jvm.exec) (hb : c.code = cc) (hts : ∀ w ∈ zW, w.before args s = true) (hown : s.vm.findClass R_Model = some m.cls) (hK : va_K D classes tys s) (hP : va_P D classes ws H) (hD : va_D A ws) (hS : va_S A H0 H locs) (q0 : Nat) (he : ws[q0]? = some (a, .inr (4, fs))) (hl : 5 < fs.length) (hw : ws.set q0 (a, .inr (4, fs.set 5 (.int x))) = w2) (hdg : decode cc pc = .ok (.putfield 48, 3)) (kk : ∀ (H1 : Heap) (locs1 : List Loc), va_P D classes w2 H1 → va_D A w2 → va_S A H0 H1 locs1 → W p l e R s m args below meth c H1 locs1 cells slots Q (F0 m (pc + 3) ls rest)) : W p l e R s m args below meth c H locs cells slots Q (F0 m pc ls (.int x :: .ref a :: rest)) := by
  subst hw
  exact va_put (ci := 4) (ty := .int) (C := R_Model) (T := F_Model) (N := 16) hx hb hts i_Model t_Model t_Model_ok n_Model hown hK hP hD hS q0 he rfl 5 (by decide) (kf_Model_48 hts) (fun _ h9 => h9) rfl (by decide +kernel) rfl rfl hl hdg kk
theorem g_Model_20 {a : Nat} {v : Value} {fs : List Value} (hx : p.tables.exec = Jvm.exec) (hb : c.code = cc) (hts : ∀ w ∈ zW, w.before args s = true) (hown : s.vm.findClass R_Model = some m.cls) (hK : va_K D classes tys s) (hP : va_P D classes ws H) (q0 : Nat) (he : ws[q0]? = some (a, .inr (4, fs))) (hv : fs[6]? = some v) (hdg : decode cc pc = .ok (.getfield 20, 3)) (kk : W p l e R s m args below meth c H locs cells slots Q (F0 m (pc + 3) ls (v :: rest))) : W p l e R s m args below meth c H locs cells slots Q (F0 m pc ls (.ref a :: rest)) :=
  va_get (ci := 4) (C := R_Model) (T := F_Model) (N := 16) hx hb hts i_Model hown hK hP q0 he rfl 6 (by decide) (kf_Model_20 hts) (fun _ h9 => h9) hv hdg kk
theorem p_Model_20 {a : Nat} {x : Int32} {fs : List Value} (hx : p.tables.exec = Jvm.exec) (hb : c.code = cc) (hts : ∀ w ∈ zW, w.before args s = true) (hown : s.vm.findClass R_Model = some m.cls) (hK : va_K D classes tys s) (hP : va_P D classes ws H) (hD : va_D A ws) (hS : va_S A H0 H locs) (q0 : Nat) (he : ws[q0]? = some (a, .inr (4, fs))) (hl : 6 < fs.length) (hw : ws.set q0 (a, .inr (4, fs.set 6 (.int x))) = w2) (hdg : decode cc pc = .ok (.putfield 20, 3)) (kk : ∀ (H1 : Heap) (locs1 : List Loc), va_P D classes w2 H1 → va_D A w2 → va_S A H0 H1 locs1 → W p l e R s m args below meth c H1 locs1 cells slots Q (F0 m (pc + 3) ls rest)) : W p l e R s m args below meth c H locs cells slots Q (F0 m pc ls (.int x :: .ref a :: rest)) := by
  subst hw
  exact va_put (ci := 4) (ty := .int) (C := R_Model) (T := F_Model) (N := 16) hx hb hts i_Model t_Model t_Model_ok n_Model hown hK hP hD hS q0 he rfl 6 (by decide) (kf_Model_20 hts) (fun _ h9 => h9) rfl (by decide +kernel) rfl rfl hl hdg kk
theorem g_Model_24 {a : Nat} {v : Value} {fs : List Value} (hx : p.tables.exec = Jvm.exec) (hb : c.code = cc) (hts : ∀ w ∈ zW, w.before args s = true) (hown : s.vm.findClass R_Model = some m.cls) (hK : va_K D classes tys s) (hP : va_P D classes ws H) (q0 : Nat) (he : ws[q0]? = some (a, .inr (4, fs))) (hv : fs[7]? = some v) (hdg : decode cc pc = .ok (.getfield 24, 3)) (kk : W p l e R s m args below meth c H locs cells slots Q (F0 m (pc + 3) ls (v :: rest))) : W p l e R s m args below meth c H locs cells slots Q (F0 m pc ls (.ref a :: rest)) :=
  va_get (ci := 4) (C := R_Model) (T := F_Model) (N := 16) hx hb hts i_Model hown hK hP q0 he rfl 7 (by decide) (kf_Model_24 hts) (fun _ h9 => h9) hv hdg kk
theorem p_Model_24 {a : Nat} {x : Nat} {fs : List Value} (hx : p.tables.exec = Jvm.exec) (hb : c.code = cc) (hts : ∀ w ∈ zW, w.before args s = true) (hown : s.vm.findClass R_Model = some m.cls) (hnm : meth.name = "<init>") (hK : va_K D classes tys s) (hP : va_P D classes ws H) (hD : va_D A ws) (hS : va_S A H0 H locs) (q0 : Nat) (he : ws[q0]? = some (a, .inr (4, fs))) (hl : 7 < fs.length) (hw : ws.set q0 (a, .inr (4, fs.set 7 (.ref x))) = w2) (hdg : decode cc pc = .ok (.putfield 24, 3)) (kk : ∀ (H1 : Heap) (locs1 : List Loc), va_P D classes w2 H1 → va_D A w2 → va_S A H0 H1 locs1 → W p l e R s m args below meth c H1 locs1 cells slots Q (F0 m (pc + 3) ls rest)) : W p l e R s m args below meth c H locs cells slots Q (F0 m pc ls (.ref x :: .ref a :: rest)) := by
  subst hw
  exact va_putF (ci := 4) (ty := (.array .long)) (C := R_Model) (T := F_Model) (N := 16) hx hb hts i_Model t_Model t_Model_ok n_Model hown hK hP hD hS q0 he rfl 7 (by decide) (kf_Model_24 hts) (fun _ h9 => h9) rfl hnm rfl (by decide +kernel) rfl rfl hl hdg kk
theorem g_Model_27 {a : Nat} {v : Value} {fs : List Value} (hx : p.tables.exec = Jvm.exec) (hb : c.code = cc) (hts : ∀ w ∈ zW, w.before args s = true) (hown : s.vm.findClass R_Model = some m.cls) (hK : va_K D classes tys s) (hP : va_P D classes ws H) (q0 : Nat) (he : ws[q0]? = some (a, .inr (4, fs))) (hv : fs[8]? = some v) (hdg : decode cc pc = .ok (.getfield 27, 3)) (kk : W p l e R s m args below meth c H locs cells slots Q (F0 m (pc + 3) ls (v :: rest))) : W p l e R s m args below meth c H locs cells slots Q (F0 m pc ls (.ref a :: rest)) :=
  va_get (ci := 4) (C := R_Model) (T := F_Model) (N := 16) hx hb hts i_Model hown hK hP q0 he rfl 8 (by decide) (kf_Model_27 hts) (fun _ h9 => h9) hv hdg kk
theorem p_Model_27 {a : Nat} {x : Nat} {fs : List Value} (hx : p.tables.exec = Jvm.exec) (hb : c.code = cc) (hts : ∀ w ∈ zW, w.before args s = true) (hown : s.vm.findClass R_Model = some m.cls) (hnm : meth.name = "<init>") (hK : va_K D classes tys s) (hP : va_P D classes ws H) (hD : va_D A ws) (hS : va_S A H0 H locs) (q0 : Nat) (he : ws[q0]? = some (a, .inr (4, fs))) (hl : 8 < fs.length) (hw : ws.set q0 (a, .inr (4, fs.set 8 (.ref x))) = w2) (hdg : decode cc pc = .ok (.putfield 27, 3)) (kk : ∀ (H1 : Heap) (locs1 : List Loc), va_P D classes w2 H1 → va_D A w2 → va_S A H0 H1 locs1 → W p l e R s m args below meth c H1 locs1 cells slots Q (F0 m (pc + 3) ls rest)) : W p l e R s m args below meth c H locs cells slots Q (F0 m pc ls (.ref x :: .ref a :: rest)) := by
  subst hw
  exact va_putF (ci := 4) (ty := (.array .long)) (C := R_Model) (T := F_Model) (N := 16) hx hb hts i_Model t_Model t_Model_ok n_Model hown hK hP hD hS q0 he rfl 8 (by decide) (kf_Model_27 hts) (fun _ h9 => h9) rfl hnm rfl (by decide +kernel) rfl rfl hl hdg kk
theorem g_Model_30 {a : Nat} {v : Value} {fs : List Value} (hx : p.tables.exec = Jvm.exec) (hb : c.code = cc) (hts : ∀ w ∈ zW, w.before args s = true) (hown : s.vm.findClass R_Model = some m.cls) (hK : va_K D classes tys s) (hP : va_P D classes ws H) (q0 : Nat) (he : ws[q0]? = some (a, .inr (4, fs))) (hv : fs[9]? = some v) (hdg : decode cc pc = .ok (.getfield 30, 3)) (kk : W p l e R s m args below meth c H locs cells slots Q (F0 m (pc + 3) ls (v :: rest))) : W p l e R s m args below meth c H locs cells slots Q (F0 m pc ls (.ref a :: rest)) :=
  va_get (ci := 4) (C := R_Model) (T := F_Model) (N := 16) hx hb hts i_Model hown hK hP q0 he rfl 9 (by decide) (kf_Model_30 hts) (fun _ h9 => h9) hv hdg kk
theorem p_Model_30 {a : Nat} {x : Nat} {fs : List Value} (hx : p.tables.exec = Jvm.exec) (hb : c.code = cc) (hts : ∀ w ∈ zW, w.before args s = true) (hown : s.vm.findClass R_Model = some m.cls) (hnm : meth.name = "<init>") (hK : va_K D classes tys s) (hP : va_P D classes ws H) (hD : va_D A ws) (hS : va_S A H0 H locs) (q0 : Nat) (he : ws[q0]? = some (a, .inr (4, fs))) (hl : 9 < fs.length) (hw : ws.set q0 (a, .inr (4, fs.set 9 (.ref x))) = w2) (hdg : decode cc pc = .ok (.putfield 30, 3)) (kk : ∀ (H1 : Heap) (locs1 : List Loc), va_P D classes w2 H1 → va_D A w2 → va_S A H0 H1 locs1 → W p l e R s m args below meth c H1 locs1 cells slots Q (F0 m (pc + 3) ls rest)) : W p l e R s m args below meth c H locs cells slots Q (F0 m pc ls (.ref x :: .ref a :: rest)) := by
  subst hw
  exact va_putF (ci := 4) (ty := (.array .int)) (C := R_Model) (T := F_Model) (N := 16) hx hb hts i_Model t_Model t_Model_ok n_Model hown hK hP hD hS q0 he rfl 9 (by decide) (kf_Model_30 hts) (fun _ h9 => h9) rfl hnm rfl (by decide +kernel) rfl rfl hl hdg kk
theorem g_Model_33 {a : Nat} {v : Value} {fs : List Value} (hx : p.tables.exec = Jvm.exec) (hb : c.code = cc) (hts : ∀ w ∈ zW, w.before args s = true) (hown : s.vm.findClass R_Model = some m.cls) (hK : va_K D classes tys s) (hP : va_P D classes ws H) (q0 : Nat) (he : ws[q0]? = some (a, .inr (4, fs))) (hv : fs[10]? = some v) (hdg : decode cc pc = .ok (.getfield 33, 3)) (kk : W p l e R s m args below meth c H locs cells slots Q (F0 m (pc + 3) ls (v :: rest))) : W p l e R s m args below meth c H locs cells slots Q (F0 m pc ls (.ref a :: rest)) :=
  va_get (ci := 4) (C := R_Model) (T := F_Model) (N := 16) hx hb hts i_Model hown hK hP q0 he rfl 10 (by decide) (kf_Model_33 hts) (fun _ h9 => h9) hv hdg kk
theorem p_Model_33 {a : Nat} {x : Nat} {fs : List Value} (hx : p.tables.exec = Jvm.exec) (hb : c.code = cc) (hts : ∀ w ∈ zW, w.before args s = true) (hown : s.vm.findClass R_Model = some m.cls) (hnm : meth.name = "<init>") (hK : va_K D classes tys s) (hP : va_P D classes ws H) (hD : va_D A ws) (hS : va_S A H0 H locs) (q0 : Nat) (he : ws[q0]? = some (a, .inr (4, fs))) (hl : 10 < fs.length) (hw : ws.set q0 (a, .inr (4, fs.set 10 (.ref x))) = w2) (hdg : decode cc pc = .ok (.putfield 33, 3)) (kk : ∀ (H1 : Heap) (locs1 : List Loc), va_P D classes w2 H1 → va_D A w2 → va_S A H0 H1 locs1 → W p l e R s m args below meth c H1 locs1 cells slots Q (F0 m (pc + 3) ls rest)) : W p l e R s m args below meth c H locs cells slots Q (F0 m pc ls (.ref x :: .ref a :: rest)) := by
  subst hw
  exact va_putF (ci := 4) (ty := (.array .int)) (C := R_Model) (T := F_Model) (N := 16) hx hb hts i_Model t_Model t_Model_ok n_Model hown hK hP hD hS q0 he rfl 10 (by decide) (kf_Model_33 hts) (fun _ h9 => h9) rfl hnm rfl (by decide +kernel) rfl rfl hl hdg kk
theorem g_Model_36 {a : Nat} {v : Value} {fs : List Value} (hx : p.tables.exec = Jvm.exec) (hb : c.code = cc) (hts : ∀ w ∈ zW, w.before args s = true) (hown : s.vm.findClass R_Model = some m.cls) (hK : va_K D classes tys s) (hP : va_P D classes ws H) (q0 : Nat) (he : ws[q0]? = some (a, .inr (4, fs))) (hv : fs[11]? = some v) (hdg : decode cc pc = .ok (.getfield 36, 3)) (kk : W p l e R s m args below meth c H locs cells slots Q (F0 m (pc + 3) ls (v :: rest))) : W p l e R s m args below meth c H locs cells slots Q (F0 m pc ls (.ref a :: rest)) :=
  va_get (ci := 4) (C := R_Model) (T := F_Model) (N := 16) hx hb hts i_Model hown hK hP q0 he rfl 11 (by decide) (kf_Model_36 hts) (fun _ h9 => h9) hv hdg kk
theorem p_Model_36 {a : Nat} {x : Nat} {fs : List Value} (hx : p.tables.exec = Jvm.exec) (hb : c.code = cc) (hts : ∀ w ∈ zW, w.before args s = true) (hown : s.vm.findClass R_Model = some m.cls) (hnm : meth.name = "<init>") (hK : va_K D classes tys s) (hP : va_P D classes ws H) (hD : va_D A ws) (hS : va_S A H0 H locs) (q0 : Nat) (he : ws[q0]? = some (a, .inr (4, fs))) (hl : 11 < fs.length) (hw : ws.set q0 (a, .inr (4, fs.set 11 (.ref x))) = w2) (hdg : decode cc pc = .ok (.putfield 36, 3)) (kk : ∀ (H1 : Heap) (locs1 : List Loc), va_P D classes w2 H1 → va_D A w2 → va_S A H0 H1 locs1 → W p l e R s m args below meth c H1 locs1 cells slots Q (F0 m (pc + 3) ls rest)) : W p l e R s m args below meth c H locs cells slots Q (F0 m pc ls (.ref x :: .ref a :: rest)) := by
  subst hw
  exact va_putF (ci := 4) (ty := (.array .int)) (C := R_Model) (T := F_Model) (N := 16) hx hb hts i_Model t_Model t_Model_ok n_Model hown hK hP hD hS q0 he rfl 11 (by decide) (kf_Model_36 hts) (fun _ h9 => h9) rfl hnm rfl (by decide +kernel) rfl rfl hl hdg kk
theorem g_Model_39 {a : Nat} {v : Value} {fs : List Value} (hx : p.tables.exec = Jvm.exec) (hb : c.code = cc) (hts : ∀ w ∈ zW, w.before args s = true) (hown : s.vm.findClass R_Model = some m.cls) (hK : va_K D classes tys s) (hP : va_P D classes ws H) (q0 : Nat) (he : ws[q0]? = some (a, .inr (4, fs))) (hv : fs[12]? = some v) (hdg : decode cc pc = .ok (.getfield 39, 3)) (kk : W p l e R s m args below meth c H locs cells slots Q (F0 m (pc + 3) ls (v :: rest))) : W p l e R s m args below meth c H locs cells slots Q (F0 m pc ls (.ref a :: rest)) :=
  va_get (ci := 4) (C := R_Model) (T := F_Model) (N := 16) hx hb hts i_Model hown hK hP q0 he rfl 12 (by decide) (kf_Model_39 hts) (fun _ h9 => h9) hv hdg kk
theorem p_Model_39 {a : Nat} {x : Nat} {fs : List Value} (hx : p.tables.exec = Jvm.exec) (hb : c.code = cc) (hts : ∀ w ∈ zW, w.before args s = true) (hown : s.vm.findClass R_Model = some m.cls) (hnm : meth.name = "<init>") (hK : va_K D classes tys s) (hP : va_P D classes ws H) (hD : va_D A ws) (hS : va_S A H0 H locs) (q0 : Nat) (he : ws[q0]? = some (a, .inr (4, fs))) (hl : 12 < fs.length) (hw : ws.set q0 (a, .inr (4, fs.set 12 (.ref x))) = w2) (hdg : decode cc pc = .ok (.putfield 39, 3)) (kk : ∀ (H1 : Heap) (locs1 : List Loc), va_P D classes w2 H1 → va_D A w2 → va_S A H0 H1 locs1 → W p l e R s m args below meth c H1 locs1 cells slots Q (F0 m (pc + 3) ls rest)) : W p l e R s m args below meth c H locs cells slots Q (F0 m pc ls (.ref x :: .ref a :: rest)) := by
  subst hw
  exact va_putF (ci := 4) (ty := (.array .int)) (C := R_Model) (T := F_Model) (N := 16) hx hb hts i_Model t_Model t_Model_ok n_Model hown hK hP hD hS q0 he rfl 12 (by decide) (kf_Model_39 hts) (fun _ h9 => h9) rfl hnm rfl (by decide +kernel) rfl rfl hl hdg kk
theorem g_Model_61 {a : Nat} {v : Value} {fs : List Value} (hx : p.tables.exec = Jvm.exec) (hb : c.code = cc) (hts : ∀ w ∈ zW, w.before args s = true) (hown : s.vm.findClass R_Model = some m.cls) (hK : va_K D classes tys s) (hP : va_P D classes ws H) (q0 : Nat) (he : ws[q0]? = some (a, .inr (4, fs))) (hv : fs[13]? = some v) (hdg : decode cc pc = .ok (.getfield 61, 3)) (kk : W p l e R s m args below meth c H locs cells slots Q (F0 m (pc + 3) ls (v :: rest))) : W p l e R s m args below meth c H locs cells slots Q (F0 m pc ls (.ref a :: rest)) :=
  va_get (ci := 4) (C := R_Model) (T := F_Model) (N := 16) hx hb hts i_Model hown hK hP q0 he rfl 13 (by decide) (kf_Model_61 hts) (fun _ h9 => h9) hv hdg kk
theorem p_Model_61 {a : Nat} {x : Int32} {fs : List Value} (hx : p.tables.exec = Jvm.exec) (hb : c.code = cc) (hts : ∀ w ∈ zW, w.before args s = true) (hown : s.vm.findClass R_Model = some m.cls) (hK : va_K D classes tys s) (hP : va_P D classes ws H) (hD : va_D A ws) (hS : va_S A H0 H locs) (q0 : Nat) (he : ws[q0]? = some (a, .inr (4, fs))) (hl : 13 < fs.length) (hw : ws.set q0 (a, .inr (4, fs.set 13 (.int x))) = w2) (hdg : decode cc pc = .ok (.putfield 61, 3)) (kk : ∀ (H1 : Heap) (locs1 : List Loc), va_P D classes w2 H1 → va_D A w2 → va_S A H0 H1 locs1 → W p l e R s m args below meth c H1 locs1 cells slots Q (F0 m (pc + 3) ls rest)) : W p l e R s m args below meth c H locs cells slots Q (F0 m pc ls (.int x :: .ref a :: rest)) := by
  subst hw
  exact va_put (ci := 4) (ty := .int) (C := R_Model) (T := F_Model) (N := 16) hx hb hts i_Model t_Model t_Model_ok n_Model hown hK hP hD hS q0 he rfl 13 (by decide) (kf_Model_61 hts) (fun _ h9 => h9) rfl (by decide +kernel) rfl rfl hl hdg kk
theorem g_Model_79 {a : Nat} {v : Value} {fs : List Value} (hx : p.tables.exec = Jvm.exec) (hb : c.code = cc) (hts : ∀ w ∈ zW, w.before args s = true) (hown : s.vm.findClass R_Model = some m.cls) (hK : va_K D classes tys s) (hP : va_P D classes ws H) (q0 : Nat) (he : ws[q0]? = some (a, .inr (4, fs))) (hv : fs[14]? = some v) (hdg : decode cc pc = .ok (.getfield 79, 3)) (kk : W p l e R s m args below meth c H locs cells slots Q (F0 m (pc + 3) ls (v :: rest))) : W p l e R s m args below meth c H locs cells slots Q (F0 m pc ls (.ref a :: rest)) :=
  va_get (ci := 4) (C := R_Model) (T := F_Model) (N := 16) hx hb hts i_Model hown hK hP q0 he rfl 14 (by decide) (kf_Model_79 hts) (fun _ h9 => h9) hv hdg kk
theorem p_Model_79 {a : Nat} {x : Int32} {fs : List Value} (hx : p.tables.exec = Jvm.exec) (hb : c.code = cc) (hts : ∀ w ∈ zW, w.before args s = true) (hown : s.vm.findClass R_Model = some m.cls) (hK : va_K D classes tys s) (hP : va_P D classes ws H) (hD : va_D A ws) (hS : va_S A H0 H locs) (q0 : Nat) (he : ws[q0]? = some (a, .inr (4, fs))) (hl : 14 < fs.length) (hw : ws.set q0 (a, .inr (4, fs.set 14 (.int x))) = w2) (hdg : decode cc pc = .ok (.putfield 79, 3)) (kk : ∀ (H1 : Heap) (locs1 : List Loc), va_P D classes w2 H1 → va_D A w2 → va_S A H0 H1 locs1 → W p l e R s m args below meth c H1 locs1 cells slots Q (F0 m (pc + 3) ls rest)) : W p l e R s m args below meth c H locs cells slots Q (F0 m pc ls (.int x :: .ref a :: rest)) := by
  subst hw
  exact va_put (ci := 4) (ty := .int) (C := R_Model) (T := F_Model) (N := 16) hx hb hts i_Model t_Model t_Model_ok n_Model hown hK hP hD hS q0 he rfl 14 (by decide) (kf_Model_79 hts) (fun _ h9 => h9) rfl (by decide +kernel) rfl rfl hl hdg kk
theorem g_Model_76 {a : Nat} {v : Value} {fs : List Value} (hx : p.tables.exec = Jvm.exec) (hb : c.code = cc) (hts : ∀ w ∈ zW, w.before args s = true) (hown : s.vm.findClass R_Model = some m.cls) (hK : va_K D classes tys s) (hP : va_P D classes ws H) (q0 : Nat) (he : ws[q0]? = some (a, .inr (4, fs))) (hv : fs[15]? = some v) (hdg : decode cc pc = .ok (.getfield 76, 3)) (kk : W p l e R s m args below meth c H locs cells slots Q (F0 m (pc + 3) ls (v :: rest))) : W p l e R s m args below meth c H locs cells slots Q (F0 m pc ls (.ref a :: rest)) :=
  va_get (ci := 4) (C := R_Model) (T := F_Model) (N := 16) hx hb hts i_Model hown hK hP q0 he rfl 15 (by decide) (kf_Model_76 hts) (fun _ h9 => h9) hv hdg kk
theorem p_Model_76 {a : Nat} {x : Int32} {fs : List Value} (hx : p.tables.exec = Jvm.exec) (hb : c.code = cc) (hts : ∀ w ∈ zW, w.before args s = true) (hown : s.vm.findClass R_Model = some m.cls) (hK : va_K D classes tys s) (hP : va_P D classes ws H) (hD : va_D A ws) (hS : va_S A H0 H locs) (q0 : Nat) (he : ws[q0]? = some (a, .inr (4, fs))) (hl : 15 < fs.length) (hw : ws.set q0 (a, .inr (4, fs.set 15 (.int x))) = w2) (hdg : decode cc pc = .ok (.putfield 76, 3)) (kk : ∀ (H1 : Heap) (locs1 : List Loc), va_P D classes w2 H1 → va_D A w2 → va_S A H0 H1 locs1 → W p l e R s m args below meth c H1 locs1 cells slots Q (F0 m (pc + 3) ls rest)) : W p l e R s m args below meth c H locs cells slots Q (F0 m pc ls (.int x :: .ref a :: rest)) := by
  subst hw
  exact va_put (ci := 4) (ty := .int) (C := R_Model) (T := F_Model) (N := 16) hx hb hts i_Model t_Model t_Model_ok n_Model hown hK hP hD hS q0 he rfl 15 (by decide) (kf_Model_76 hts) (fun _ h9 => h9) rfl (by decide +kernel) rfl rfl hl hdg kk
end ZFD
set_option maxRecDepth 100000 in
theorem kk_law_9 : zIW "DeltaRowsLaw" 9 y_DeltaRows_init b_DeltaRows_init 1 0 := ⟨zW_at 36 rfl rfl, zW_at 24 (by decide +kernel) rfl, zW_at 34 (by decide +kernel) rfl, zW_at 35 (by decide +kernel) rfl, rfl, by decide +kernel, by decide +kernel, by decide +kernel⟩
set_option maxRecDepth 100000 in
theorem kk_DeltaRows_19 : zIW R_DeltaRows 19 y_ByteRow_init b_ByteRow_init 1 0 := ⟨zW_at 44 rfl rfl, zW_at 25 (by decide +kernel) rfl, zW_at 42 (by decide +kernel) rfl, zW_at 43 (by decide +kernel) rfl, rfl, by decide +kernel, by decide +kernel, by decide +kernel⟩
set_option maxRecDepth 100000 in
theorem kk_DeltaRows_26 : zIW R_DeltaRows 26 y_Scan_init b_Scan_init 2 1 := ⟨zW_at 60 rfl rfl, zW_at 26 (by decide +kernel) rfl, zW_at 58 (by decide +kernel) rfl, zW_at 59 (by decide +kernel) rfl, rfl, by decide +kernel, by decide +kernel, by decide +kernel⟩
set_option maxRecDepth 100000 in
theorem kk_DeltaRows_35 : zIW R_DeltaRows 35 y_Layout_init b_Layout_init 1 0 := ⟨zW_at 89 rfl rfl, zW_at 27 (by decide +kernel) rfl, zW_at 87 (by decide +kernel) rfl, zW_at 88 (by decide +kernel) rfl, rfl, by decide +kernel, by decide +kernel, by decide +kernel⟩
set_option maxRecDepth 100000 in
theorem kk_law_15 : zVW "DeltaRowsLaw" 15 y_DeltaRows_put b_DeltaRows_put 3 (some .boolean) 1 := ⟨zW_at 135 rfl rfl, zW_at 24 (by decide +kernel) rfl, zW_at 132 (by decide +kernel) rfl, zW_at 133 (by decide +kernel) rfl, zW_at 134 (by decide +kernel) rfl, by decide +kernel, by decide +kernel, by decide +kernel⟩
set_option maxRecDepth 100000 in
theorem kk_law_20 : zVW "DeltaRowsLaw" 20 y_DeltaRows_clear b_DeltaRows_clear 1 none 0 := ⟨zW_at 139 rfl rfl, zW_at 24 (by decide +kernel) rfl, zW_at 136 (by decide +kernel) rfl, zW_at 137 (by decide +kernel) rfl, zW_at 138 (by decide +kernel) rfl, by decide +kernel, by decide +kernel, by decide +kernel⟩
set_option maxRecDepth 100000 in
theorem kk_law_24 : zVW "DeltaRowsLaw" 24 y_DeltaRows_count b_DeltaRows_count 1 (some .int) 0 := ⟨zW_at 143 rfl rfl, zW_at 24 (by decide +kernel) rfl, zW_at 140 (by decide +kernel) rfl, zW_at 141 (by decide +kernel) rfl, zW_at 142 (by decide +kernel) rfl, by decide +kernel, by decide +kernel, by decide +kernel⟩
set_option maxRecDepth 100000 in
theorem kk_law_29 : zVW "DeltaRowsLaw" 29 y_DeltaRows_get b_DeltaRows_get 2 (some .long) 1 := ⟨zW_at 147 rfl rfl, zW_at 24 (by decide +kernel) rfl, zW_at 144 (by decide +kernel) rfl, zW_at 145 (by decide +kernel) rfl, zW_at 146 (by decide +kernel) rfl, by decide +kernel, by decide +kernel, by decide +kernel⟩
set_option maxRecDepth 100000 in
theorem kk_law_34 : zVW "DeltaRowsLaw" 34 y_DeltaRows_write b_DeltaRows_write 2 (some .int) 0 := ⟨zW_at 151 rfl rfl, zW_at 24 (by decide +kernel) rfl, zW_at 148 (by decide +kernel) rfl, zW_at 149 (by decide +kernel) rfl, zW_at 150 (by decide +kernel) rfl, by decide +kernel, by decide +kernel, by decide +kernel⟩
set_option maxRecDepth 100000 in
theorem kk_DeltaRows_43 : zVW R_DeltaRows 43 y_ByteRow_shorten b_ByteRow_shorten 2 none 1 := ⟨zW_at 155 rfl rfl, zW_at 25 (by decide +kernel) rfl, zW_at 152 (by decide +kernel) rfl, zW_at 153 (by decide +kernel) rfl, zW_at 154 (by decide +kernel) rfl, by decide +kernel, by decide +kernel, by decide +kernel⟩
set_option maxRecDepth 100000 in
theorem kk_DeltaRows_47 : zVW R_DeltaRows 47 y_ByteRow_addVarint b_ByteRow_addVarint 6 none 1 := ⟨zW_at 159 rfl rfl, zW_at 25 (by decide +kernel) rfl, zW_at 156 (by decide +kernel) rfl, zW_at 157 (by decide +kernel) rfl, zW_at 158 (by decide +kernel) rfl, by decide +kernel, by decide +kernel, by decide +kernel⟩
set_option maxRecDepth 100000 in
theorem kk_ByteRow_35 : zVW R_ByteRow 35 y_ByteRow_add b_ByteRow_add 2 (some .boolean) 1 := ⟨zW_at 165 rfl rfl, zW_at 25 (by decide +kernel) rfl, zW_at 162 (by decide +kernel) rfl, zW_at 163 (by decide +kernel) rfl, zW_at 164 (by decide +kernel) rfl, by decide +kernel, by decide +kernel, by decide +kernel⟩
set_option maxRecDepth 100000 in
theorem kk_ByteRow_27 : zVW R_ByteRow 27 y_ByteRow_change b_ByteRow_change 3 none 2 := ⟨zW_at 169 rfl rfl, zW_at 25 (by decide +kernel) rfl, zW_at 166 (by decide +kernel) rfl, zW_at 167 (by decide +kernel) rfl, zW_at 168 (by decide +kernel) rfl, by decide +kernel, by decide +kernel, by decide +kernel⟩
set_option maxRecDepth 100000 in
theorem kk_ByteRow_23 : zVW R_ByteRow 23 y_ByteRow_setBits b_ByteRow_setBits 12 none 3 := ⟨zW_at 173 rfl rfl, zW_at 25 (by decide +kernel) rfl, zW_at 170 (by decide +kernel) rfl, zW_at 171 (by decide +kernel) rfl, zW_at 172 (by decide +kernel) rfl, by decide +kernel, by decide +kernel, by decide +kernel⟩
set_option maxRecDepth 100000 in
theorem kk_ByteRow_39 : zVW R_ByteRow 39 y_ByteRow_hasRoom b_ByteRow_hasRoom 3 (some .boolean) 2 := ⟨zW_at 177 rfl rfl, zW_at 25 (by decide +kernel) rfl, zW_at 174 (by decide +kernel) rfl, zW_at 176 (by decide +kernel) rfl, zW_at 0 (by decide +kernel) rfl, by decide +kernel, by decide +kernel, by decide +kernel⟩
set_option maxRecDepth 100000 in
theorem kk_ByteRow_43 : zSW R_ByteRow 43 y_ByteRow_maskOf b_ByteRow_maskOf 1 (some .long) 1 := ⟨zW_at 181 rfl rfl, zW_at 25 (by decide +kernel) rfl, zW_at 179 (by decide +kernel) rfl, zW_at 180 (by decide +kernel) rfl, by decide +kernel, by decide +kernel, by decide +kernel⟩
set_option maxRecDepth 100000 in
theorem kk_DeltaRows_51 : zSW R_DeltaRows 51 y_DeltaRows_zigzag b_DeltaRows_zigzag 2 (some .long) 1 := ⟨zW_at 185 rfl rfl, zW_at 24 (by decide +kernel) rfl, zW_at 183 (by decide +kernel) rfl, zW_at 184 (by decide +kernel) rfl, by decide +kernel, by decide +kernel, by decide +kernel⟩
set_option maxRecDepth 100000 in
theorem kk_DeltaRows_55 : zSW R_DeltaRows 55 y_DeltaRows_blocksFor b_DeltaRows_blocksFor 1 (some .int) 1 := ⟨zW_at 188 rfl rfl, zW_at 24 (by decide +kernel) rfl, zW_at 186 (by decide +kernel) rfl, zW_at 187 (by decide +kernel) rfl, by decide +kernel, by decide +kernel, by decide +kernel⟩
set_option maxRecDepth 100000 in
theorem kk_DeltaRows_62 : zVW R_DeltaRows 62 y_DeltaRows_writeBlock b_DeltaRows_writeBlock 6 none 1 := ⟨zW_at 192 rfl rfl, zW_at 24 (by decide +kernel) rfl, zW_at 189 (by decide +kernel) rfl, zW_at 191 (by decide +kernel) rfl, zW_at 1 (by decide +kernel) rfl, by decide +kernel, by decide +kernel, by decide +kernel⟩
set_option maxRecDepth 100000 in
theorem kk_DeltaRows_112 : zVW R_DeltaRows 112 y_DeltaRows_leastDifference b_DeltaRows_leastDifference 7 (some .long) 1 := ⟨zW_at 196 rfl rfl, zW_at 24 (by decide +kernel) rfl, zW_at 193 (by decide +kernel) rfl, zW_at 195 (by decide +kernel) rfl, zW_at 2 (by decide +kernel) rfl, by decide +kernel, by decide +kernel, by decide +kernel⟩
set_option maxRecDepth 100000 in
theorem kk_DeltaRows_123 : zSW R_DeltaRows 123 y_DeltaRows_partEdge b_DeltaRows_partEdge 3 (some .int) 3 := ⟨zW_at 199 rfl rfl, zW_at 24 (by decide +kernel) rfl, zW_at 197 (by decide +kernel) rfl, zW_at 198 (by decide +kernel) rfl, by decide +kernel, by decide +kernel, by decide +kernel⟩
set_option maxRecDepth 100000 in
theorem kk_DeltaRows_116 : zVW R_DeltaRows 116 y_DeltaRows_neededWidth b_DeltaRows_neededWidth 9 (some .int) 2 := ⟨zW_at 209 rfl rfl, zW_at 24 (by decide +kernel) rfl, zW_at 206 (by decide +kernel) rfl, zW_at 208 (by decide +kernel) rfl, zW_at 3 (by decide +kernel) rfl, by decide +kernel, by decide +kernel, by decide +kernel⟩
set_option maxRecDepth 100000 in
theorem kk_DeltaRows_133 : zSW R_DeltaRows 133 y_Long_numberOfLeadingZeros b_Long_numberOfLeadingZeros 3 (some .int) 1 := ⟨zW_at 212 rfl rfl, zW_at 30 (by decide +kernel) rfl, zW_at 210 (by decide +kernel) rfl, zW_at 211 (by decide +kernel) rfl, by decide +kernel, by decide +kernel, by decide +kernel⟩
set_option maxRecDepth 100000 in
theorem kk_Long_308 : zSW R_Long 308 y_Integer_numberOfLeadingZeros b_Integer_numberOfLeadingZeros 2 (some .int) 1 := ⟨zW_at 215 rfl rfl, zW_at 31 (by decide +kernel) rfl, zW_at 213 (by decide +kernel) rfl, zW_at 214 (by decide +kernel) rfl, by decide +kernel, by decide +kernel, by decide +kernel⟩
set_option maxRecDepth 100000 in
theorem kk_DeltaRows_92 : zVW R_DeltaRows 92 y_ByteRow_add b_ByteRow_add 2 (some .boolean) 1 := ⟨zW_at 165 rfl rfl, zW_at 25 (by decide +kernel) rfl, zW_at 217 (by decide +kernel) rfl, zW_at 163 (by decide +kernel) rfl, zW_at 164 (by decide +kernel) rfl, by decide +kernel, by decide +kernel, by decide +kernel⟩
set_option maxRecDepth 100000 in
theorem kk_DeltaRows_120 : zVW R_DeltaRows 120 y_DeltaRows_writePart b_DeltaRows_writePart 10 none 2 := ⟨zW_at 221 rfl rfl, zW_at 24 (by decide +kernel) rfl, zW_at 218 (by decide +kernel) rfl, zW_at 220 (by decide +kernel) rfl, zW_at 4 (by decide +kernel) rfl, by decide +kernel, by decide +kernel, by decide +kernel⟩
set_option maxRecDepth 100000 in
theorem kk_DeltaRows_139 : zVW R_DeltaRows 139 y_ByteRow_setBits b_ByteRow_setBits 12 none 3 := ⟨zW_at 173 rfl rfl, zW_at 25 (by decide +kernel) rfl, zW_at 222 (by decide +kernel) rfl, zW_at 171 (by decide +kernel) rfl, zW_at 172 (by decide +kernel) rfl, by decide +kernel, by decide +kernel, by decide +kernel⟩
set_option maxRecDepth 100000 in
theorem kk_DeltaRows_143 : zSW R_DeltaRows 143 y_DeltaRows_partBytes b_DeltaRows_partBytes 1 (some .int) 1 := ⟨zW_at 225 rfl rfl, zW_at 24 (by decide +kernel) rfl, zW_at 223 (by decide +kernel) rfl, zW_at 224 (by decide +kernel) rfl, by decide +kernel, by decide +kernel, by decide +kernel⟩
set_option maxRecDepth 100000 in
theorem kk_law_38 : zVW "DeltaRowsLaw" 38 y_DeltaRows_read b_DeltaRows_read 2 (some .int) 0 := ⟨zW_at 229 rfl rfl, zW_at 24 (by decide +kernel) rfl, zW_at 226 (by decide +kernel) rfl, zW_at 227 (by decide +kernel) rfl, zW_at 228 (by decide +kernel) rfl, by decide +kernel, by decide +kernel, by decide +kernel⟩
set_option maxRecDepth 100000 in
theorem kk_DeltaRows_68 : zVW R_DeltaRows 68 y_Scan_lookThrough b_Scan_lookThrough 3 none 1 := ⟨zW_at 233 rfl rfl, zW_at 26 (by decide +kernel) rfl, zW_at 230 (by decide +kernel) rfl, zW_at 231 (by decide +kernel) rfl, zW_at 232 (by decide +kernel) rfl, by decide +kernel, by decide +kernel, by decide +kernel⟩
set_option maxRecDepth 100000 in
theorem kk_Scan_32 : zVW R_Scan 32 y_Scan_lookAtHead b_Scan_lookAtHead 3 none 0 := ⟨zW_at 237 rfl rfl, zW_at 26 (by decide +kernel) rfl, zW_at 234 (by decide +kernel) rfl, zW_at 236 (by decide +kernel) rfl, zW_at 5 (by decide +kernel) rfl, by decide +kernel, by decide +kernel, by decide +kernel⟩
set_option maxRecDepth 100000 in
theorem kk_Scan_61 : zVW R_Scan 61 y_Scan_nextVarint b_Scan_nextVarint 8 (some .long) 0 := ⟨zW_at 241 rfl rfl, zW_at 26 (by decide +kernel) rfl, zW_at 238 (by decide +kernel) rfl, zW_at 240 (by decide +kernel) rfl, zW_at 6 (by decide +kernel) rfl, by decide +kernel, by decide +kernel, by decide +kernel⟩
set_option maxRecDepth 100000 in
theorem kk_Scan_96 : zVW R_Scan 96 y_Scan_nextByte b_Scan_nextByte 2 (some .int) 0 := ⟨zW_at 245 rfl rfl, zW_at 26 (by decide +kernel) rfl, zW_at 242 (by decide +kernel) rfl, zW_at 244 (by decide +kernel) rfl, zW_at 7 (by decide +kernel) rfl, by decide +kernel, by decide +kernel, by decide +kernel⟩
set_option maxRecDepth 100000 in
theorem kk_Scan_109 : zVW R_Scan 109 y_ByteRow_has b_ByteRow_has 2 (some .boolean) 1 := ⟨zW_at 249 rfl rfl, zW_at 25 (by decide +kernel) rfl, zW_at 246 (by decide +kernel) rfl, zW_at 247 (by decide +kernel) rfl, zW_at 248 (by decide +kernel) rfl, by decide +kernel, by decide +kernel, by decide +kernel⟩
set_option maxRecDepth 100000 in
theorem kk_Scan_57 : zVW R_Scan 57 y_Scan_refuse b_Scan_refuse 3 none 2 := ⟨zW_at 253 rfl rfl, zW_at 26 (by decide +kernel) rfl, zW_at 250 (by decide +kernel) rfl, zW_at 252 (by decide +kernel) rfl, zW_at 8 (by decide +kernel) rfl, by decide +kernel, by decide +kernel, by decide +kernel⟩
set_option maxRecDepth 100000 in
theorem kk_Scan_113 : zVW R_Scan 113 y_ByteRow_byteIn b_ByteRow_byteIn 2 (some .int) 1 := ⟨zW_at 257 rfl rfl, zW_at 25 (by decide +kernel) rfl, zW_at 254 (by decide +kernel) rfl, zW_at 255 (by decide +kernel) rfl, zW_at 256 (by decide +kernel) rfl, by decide +kernel, by decide +kernel, by decide +kernel⟩
set_option maxRecDepth 100000 in
theorem kk_ByteRow_19 : zVW R_ByteRow 19 y_ByteRow_bitsIn b_ByteRow_bitsIn 7 (some .long) 2 := ⟨zW_at 261 rfl rfl, zW_at 25 (by decide +kernel) rfl, zW_at 258 (by decide +kernel) rfl, zW_at 259 (by decide +kernel) rfl, zW_at 260 (by decide +kernel) rfl, by decide +kernel, by decide +kernel, by decide +kernel⟩
set_option maxRecDepth 100000 in
theorem kk_Scan_44 : zVW R_Scan 44 y_Scan_isFaultless b_Scan_isFaultless 1 (some .boolean) 0 := ⟨zW_at 265 rfl rfl, zW_at 26 (by decide +kernel) rfl, zW_at 262 (by decide +kernel) rfl, zW_at 264 (by decide +kernel) rfl, zW_at 9 (by decide +kernel) rfl, by decide +kernel, by decide +kernel, by decide +kernel⟩
set_option maxRecDepth 100000 in
theorem kk_Scan_67 : zNW R_Scan 67 y_DeltaRows_unzigzag "DeltaRows" b_DeltaRows_unzigzag 2 (some .long) 1 := ⟨zW_at 270 rfl rfl, zW_at 24 (by decide +kernel) rfl, List.mem_of_getElem? (i := 0) rfl, zW_at 269 (by decide +kernel) rfl, by decide +kernel, by decide +kernel, by decide +kernel⟩
set_option maxRecDepth 100000 in
theorem kk_Scan_35 : zNW R_Scan 35 y_DeltaRows_blocksFor "DeltaRows" b_DeltaRows_blocksFor 1 (some .int) 1 := ⟨zW_at 188 rfl rfl, zW_at 24 (by decide +kernel) rfl, List.mem_of_getElem? (i := 1) rfl, zW_at 187 (by decide +kernel) rfl, by decide +kernel, by decide +kernel, by decide +kernel⟩
set_option maxRecDepth 100000 in
theorem kk_Scan_48 : zVW R_Scan 48 y_Scan_lookAtBlock b_Scan_lookAtBlock 4 none 2 := ⟨zW_at 275 rfl rfl, zW_at 26 (by decide +kernel) rfl, zW_at 272 (by decide +kernel) rfl, zW_at 274 (by decide +kernel) rfl, zW_at 10 (by decide +kernel) rfl, by decide +kernel, by decide +kernel, by decide +kernel⟩
set_option maxRecDepth 100000 in
theorem kk_Scan_79 : zVW R_Scan 79 y_Scan_longsOf b_Scan_longsOf 3 (some .int) 2 := ⟨zW_at 279 rfl rfl, zW_at 26 (by decide +kernel) rfl, zW_at 276 (by decide +kernel) rfl, zW_at 278 (by decide +kernel) rfl, zW_at 11 (by decide +kernel) rfl, by decide +kernel, by decide +kernel, by decide +kernel⟩
set_option maxRecDepth 100000 in
theorem kk_Scan_92 : zNW R_Scan 92 y_DeltaRows_partEdge "DeltaRows" b_DeltaRows_partEdge 3 (some .int) 3 := ⟨zW_at 199 rfl rfl, zW_at 24 (by decide +kernel) rfl, List.mem_of_getElem? (i := 2) rfl, zW_at 198 (by decide +kernel) rfl, by decide +kernel, by decide +kernel, by decide +kernel⟩
set_option maxRecDepth 100000 in
theorem kk_Scan_83 : zVW R_Scan 83 y_Scan_nextWidth b_Scan_nextWidth 4 (some .int) 1 := ⟨zW_at 284 rfl rfl, zW_at 26 (by decide +kernel) rfl, zW_at 281 (by decide +kernel) rfl, zW_at 283 (by decide +kernel) rfl, zW_at 12 (by decide +kernel) rfl, by decide +kernel, by decide +kernel, by decide +kernel⟩
set_option maxRecDepth 100000 in
theorem kk_Scan_89 : zVW R_Scan 89 y_Scan_passPart b_Scan_passPart 4 none 2 := ⟨zW_at 288 rfl rfl, zW_at 26 (by decide +kernel) rfl, zW_at 285 (by decide +kernel) rfl, zW_at 287 (by decide +kernel) rfl, zW_at 13 (by decide +kernel) rfl, by decide +kernel, by decide +kernel, by decide +kernel⟩
set_option maxRecDepth 100000 in
theorem kk_Scan_100 : zNW R_Scan 100 y_DeltaRows_partBytes "DeltaRows" b_DeltaRows_partBytes 1 (some .int) 1 := ⟨zW_at 225 rfl rfl, zW_at 24 (by decide +kernel) rfl, List.mem_of_getElem? (i := 3) rfl, zW_at 224 (by decide +kernel) rfl, by decide +kernel, by decide +kernel, by decide +kernel⟩
set_option maxRecDepth 100000 in
theorem kk_Scan_103 : zVW R_Scan 103 y_ByteRow_bitsIn b_ByteRow_bitsIn 7 (some .long) 2 := ⟨zW_at 261 rfl rfl, zW_at 25 (by decide +kernel) rfl, zW_at 290 (by decide +kernel) rfl, zW_at 259 (by decide +kernel) rfl, zW_at 260 (by decide +kernel) rfl, by decide +kernel, by decide +kernel, by decide +kernel⟩
set_option maxRecDepth 100000 in
theorem kk_DeltaRows_75 : zVW R_DeltaRows 75 y_DeltaRows_takeRow b_DeltaRows_takeRow 3 none 0 := ⟨zW_at 294 rfl rfl, zW_at 24 (by decide +kernel) rfl, zW_at 291 (by decide +kernel) rfl, zW_at 293 (by decide +kernel) rfl, zW_at 14 (by decide +kernel) rfl, by decide +kernel, by decide +kernel, by decide +kernel⟩
set_option maxRecDepth 100000 in
theorem kk_DeltaRows_153 : zVW R_DeltaRows 153 y_DeltaRows_takePart b_DeltaRows_takePart 9 none 2 := ⟨zW_at 298 rfl rfl, zW_at 24 (by decide +kernel) rfl, zW_at 295 (by decide +kernel) rfl, zW_at 297 (by decide +kernel) rfl, zW_at 15 (by decide +kernel) rfl, by decide +kernel, by decide +kernel, by decide +kernel⟩
set_option maxRecDepth 100000 in
theorem kk_DeltaRows_156 : zVW R_DeltaRows 156 y_ByteRow_bitsIn b_ByteRow_bitsIn 7 (some .long) 2 := ⟨zW_at 261 rfl rfl, zW_at 25 (by decide +kernel) rfl, zW_at 299 (by decide +kernel) rfl, zW_at 259 (by decide +kernel) rfl, zW_at 260 (by decide +kernel) rfl, by decide +kernel, by decide +kernel, by decide +kernel⟩
set_option maxRecDepth 100000 in
theorem kk_law_42 : zVW "DeltaRowsLaw" 42 y_DeltaRows_place b_DeltaRows_place 1 (some .int) 0 := ⟨zW_at 303 rfl rfl, zW_at 24 (by decide +kernel) rfl, zW_at 300 (by decide +kernel) rfl, zW_at 301 (by decide +kernel) rfl, zW_at 302 (by decide +kernel) rfl, by decide +kernel, by decide +kernel, by decide +kernel⟩
set_option maxRecDepth 100000 in
theorem kk_law_46 : zVW "DeltaRowsLaw" 46 y_DeltaRows_size b_DeltaRows_size 1 (some .int) 0 := ⟨zW_at 307 rfl rfl, zW_at 24 (by decide +kernel) rfl, zW_at 304 (by decide +kernel) rfl, zW_at 305 (by decide +kernel) rfl, zW_at 306 (by decide +kernel) rfl, by decide +kernel, by decide +kernel, by decide +kernel⟩
set_option maxRecDepth 100000 in
theorem kk_law_50 : zVW "DeltaRowsLaw" 50 y_DeltaRows_byteAt b_DeltaRows_byteAt 2 (some .int) 1 := ⟨zW_at 311 rfl rfl, zW_at 24 (by decide +kernel) rfl, zW_at 308 (by decide +kernel) rfl, zW_at 309 (by decide +kernel) rfl, zW_at 310 (by decide +kernel) rfl, by decide +kernel, by decide +kernel, by decide +kernel⟩
set_option maxRecDepth 100000 in
theorem kk_DeltaRows_81 : zVW R_DeltaRows 81 y_ByteRow_has b_ByteRow_has 2 (some .boolean) 1 := ⟨zW_at 249 rfl rfl, zW_at 25 (by decide +kernel) rfl, zW_at 312 (by decide +kernel) rfl, zW_at 247 (by decide +kernel) rfl, zW_at 248 (by decide +kernel) rfl, by decide +kernel, by decide +kernel, by decide +kernel⟩
set_option maxRecDepth 100000 in
theorem kk_DeltaRows_85 : zVW R_DeltaRows 85 y_ByteRow_byteIn b_ByteRow_byteIn 2 (some .int) 1 := ⟨zW_at 257 rfl rfl, zW_at 25 (by decide +kernel) rfl, zW_at 313 (by decide +kernel) rfl, zW_at 255 (by decide +kernel) rfl, zW_at 256 (by decide +kernel) rfl, by decide +kernel, by decide +kernel, by decide +kernel⟩
set_option maxRecDepth 100000 in
theorem kk_law_55 : zVW "DeltaRowsLaw" 55 y_DeltaRows_setByte b_DeltaRows_setByte 3 (some .boolean) 2 := ⟨zW_at 317 rfl rfl, zW_at 24 (by decide +kernel) rfl, zW_at 314 (by decide +kernel) rfl, zW_at 315 (by decide +kernel) rfl, zW_at 316 (by decide +kernel) rfl, by decide +kernel, by decide +kernel, by decide +kernel⟩
set_option maxRecDepth 100000 in
theorem kk_DeltaRows_88 : zVW R_DeltaRows 88 y_ByteRow_change b_ByteRow_change 3 none 2 := ⟨zW_at 169 rfl rfl, zW_at 25 (by decide +kernel) rfl, zW_at 318 (by decide +kernel) rfl, zW_at 167 (by decide +kernel) rfl, zW_at 168 (by decide +kernel) rfl, by decide +kernel, by decide +kernel, by decide +kernel⟩
set_option maxRecDepth 100000 in
theorem kk_law_60 : zVW "DeltaRowsLaw" 60 y_DeltaRows_append b_DeltaRows_append 2 (some .boolean) 1 := ⟨zW_at 322 rfl rfl, zW_at 24 (by decide +kernel) rfl, zW_at 319 (by decide +kernel) rfl, zW_at 320 (by decide +kernel) rfl, zW_at 321 (by decide +kernel) rfl, by decide +kernel, by decide +kernel, by decide +kernel⟩
set_option maxRecDepth 100000 in
theorem kk_law_65 : zVW "DeltaRowsLaw" 65 y_DeltaRows_cut b_DeltaRows_cut 2 (some .boolean) 1 := ⟨zW_at 326 rfl rfl, zW_at 24 (by decide +kernel) rfl, zW_at 323 (by decide +kernel) rfl, zW_at 324 (by decide +kernel) rfl, zW_at 325 (by decide +kernel) rfl, by decide +kernel, by decide +kernel, by decide +kernel⟩
set_option maxRecDepth 100000 in
theorem kk_law_69 : zVW "DeltaRowsLaw" 69 y_DeltaRows_blocks b_DeltaRows_blocks 1 (some .int) 0 := ⟨zW_at 330 rfl rfl, zW_at 24 (by decide +kernel) rfl, zW_at 327 (by decide +kernel) rfl, zW_at 328 (by decide +kernel) rfl, zW_at 329 (by decide +kernel) rfl, by decide +kernel, by decide +kernel, by decide +kernel⟩
set_option maxRecDepth 100000 in
theorem kk_law_73 : zVW "DeltaRowsLaw" 73 y_DeltaRows_least b_DeltaRows_least 2 (some .long) 1 := ⟨zW_at 334 rfl rfl, zW_at 24 (by decide +kernel) rfl, zW_at 331 (by decide +kernel) rfl, zW_at 332 (by decide +kernel) rfl, zW_at 333 (by decide +kernel) rfl, by decide +kernel, by decide +kernel, by decide +kernel⟩
set_option maxRecDepth 100000 in
theorem kk_DeltaRows_95 : zVW R_DeltaRows 95 y_Layout_hasBlock b_Layout_hasBlock 2 (some .boolean) 1 := ⟨zW_at 338 rfl rfl, zW_at 27 (by decide +kernel) rfl, zW_at 335 (by decide +kernel) rfl, zW_at 336 (by decide +kernel) rfl, zW_at 337 (by decide +kernel) rfl, by decide +kernel, by decide +kernel, by decide +kernel⟩
set_option maxRecDepth 100000 in
theorem kk_law_77 : zVW "DeltaRowsLaw" 77 y_DeltaRows_width b_DeltaRows_width 3 (some .int) 2 := ⟨zW_at 342 rfl rfl, zW_at 24 (by decide +kernel) rfl, zW_at 339 (by decide +kernel) rfl, zW_at 340 (by decide +kernel) rfl, zW_at 341 (by decide +kernel) rfl, by decide +kernel, by decide +kernel, by decide +kernel⟩
set_option maxRecDepth 100000 in
theorem kk_DeltaRows_101 : zVW R_DeltaRows 101 y_Layout_hasPart b_Layout_hasPart 3 (some .boolean) 2 := ⟨zW_at 346 rfl rfl, zW_at 27 (by decide +kernel) rfl, zW_at 343 (by decide +kernel) rfl, zW_at 344 (by decide +kernel) rfl, zW_at 345 (by decide +kernel) rfl, by decide +kernel, by decide +kernel, by decide +kernel⟩
set_option maxRecDepth 100000 in
theorem kk_Layout_26 : zVW R_Layout 26 y_Layout_hasBlock b_Layout_hasBlock 2 (some .boolean) 1 := ⟨zW_at 338 rfl rfl, zW_at 27 (by decide +kernel) rfl, zW_at 347 (by decide +kernel) rfl, zW_at 336 (by decide +kernel) rfl, zW_at 337 (by decide +kernel) rfl, by decide +kernel, by decide +kernel, by decide +kernel⟩
set_option maxRecDepth 100000 in
theorem kk_law_82 : zVW "DeltaRowsLaw" 82 y_DeltaRows_start b_DeltaRows_start 3 (some .int) 2 := ⟨zW_at 351 rfl rfl, zW_at 24 (by decide +kernel) rfl, zW_at 348 (by decide +kernel) rfl, zW_at 349 (by decide +kernel) rfl, zW_at 350 (by decide +kernel) rfl, by decide +kernel, by decide +kernel, by decide +kernel⟩
set_option maxRecDepth 100000 in
theorem kk_law_12 : zIW "DeltaRowsLaw" 12 y_Model_init b_Model_init 1 0 := ⟨zW_at 356 rfl rfl, zW_at 28 (by decide +kernel) rfl, zW_at 354 (by decide +kernel) rfl, zW_at 355 (by decide +kernel) rfl, rfl, by decide +kernel, by decide +kernel, by decide +kernel⟩
set_option maxRecDepth 100000 in
theorem kk_law_19 : zVW "DeltaRowsLaw" 19 y_Model_put b_Model_put 3 (some .boolean) 1 := ⟨zW_at 410 rfl rfl, zW_at 28 (by decide +kernel) rfl, zW_at 407 (by decide +kernel) rfl, zW_at 408 (by decide +kernel) rfl, zW_at 409 (by decide +kernel) rfl, by decide +kernel, by decide +kernel, by decide +kernel⟩
set_option maxRecDepth 100000 in
theorem kk_law_23 : zVW "DeltaRowsLaw" 23 y_Model_clear b_Model_clear 1 none 0 := ⟨zW_at 414 rfl rfl, zW_at 28 (by decide +kernel) rfl, zW_at 411 (by decide +kernel) rfl, zW_at 412 (by decide +kernel) rfl, zW_at 413 (by decide +kernel) rfl, by decide +kernel, by decide +kernel, by decide +kernel⟩
set_option maxRecDepth 100000 in
theorem kk_law_28 : zVW "DeltaRowsLaw" 28 y_Model_count b_Model_count 1 (some .int) 0 := ⟨zW_at 418 rfl rfl, zW_at 28 (by decide +kernel) rfl, zW_at 415 (by decide +kernel) rfl, zW_at 416 (by decide +kernel) rfl, zW_at 417 (by decide +kernel) rfl, by decide +kernel, by decide +kernel, by decide +kernel⟩
set_option maxRecDepth 100000 in
theorem kk_law_33 : zVW "DeltaRowsLaw" 33 y_Model_get b_Model_get 2 (some .long) 1 := ⟨zW_at 422 rfl rfl, zW_at 28 (by decide +kernel) rfl, zW_at 419 (by decide +kernel) rfl, zW_at 420 (by decide +kernel) rfl, zW_at 421 (by decide +kernel) rfl, by decide +kernel, by decide +kernel, by decide +kernel⟩
set_option maxRecDepth 100000 in
theorem kk_law_37 : zVW "DeltaRowsLaw" 37 y_Model_write b_Model_write 10 (some .int) 0 := ⟨zW_at 426 rfl rfl, zW_at 28 (by decide +kernel) rfl, zW_at 423 (by decide +kernel) rfl, zW_at 424 (by decide +kernel) rfl, zW_at 425 (by decide +kernel) rfl, by decide +kernel, by decide +kernel, by decide +kernel⟩
set_option maxRecDepth 100000 in
theorem kk_Model_64 : zVW R_Model 64 y_Model_addVarint b_Model_addVarint 5 none 1 := ⟨zW_at 430 rfl rfl, zW_at 28 (by decide +kernel) rfl, zW_at 427 (by decide +kernel) rfl, zW_at 429 (by decide +kernel) rfl, zW_at 16 (by decide +kernel) rfl, by decide +kernel, by decide +kernel, by decide +kernel⟩
set_option maxRecDepth 100000 in
theorem kk_Model_53 : zVW R_Model 53 y_Model_add b_Model_add 2 none 1 := ⟨zW_at 435 rfl rfl, zW_at 28 (by decide +kernel) rfl, zW_at 432 (by decide +kernel) rfl, zW_at 434 (by decide +kernel) rfl, zW_at 17 (by decide +kernel) rfl, by decide +kernel, by decide +kernel, by decide +kernel⟩
set_option maxRecDepth 100000 in
theorem kk_Model_68 : zSW R_Model 68 y_Model_zigzag b_Model_zigzag 2 (some .long) 1 := ⟨zW_at 438 rfl rfl, zW_at 28 (by decide +kernel) rfl, zW_at 436 (by decide +kernel) rfl, zW_at 437 (by decide +kernel) rfl, by decide +kernel, by decide +kernel, by decide +kernel⟩
set_option maxRecDepth 100000 in
theorem kk_Model_72 : zVW R_Model 72 y_Model_difference b_Model_difference 2 (some .long) 1 := ⟨zW_at 444 rfl rfl, zW_at 28 (by decide +kernel) rfl, zW_at 441 (by decide +kernel) rfl, zW_at 443 (by decide +kernel) rfl, zW_at 18 (by decide +kernel) rfl, by decide +kernel, by decide +kernel, by decide +kernel⟩
set_option maxRecDepth 100000 in
theorem kk_law_41 : zVW "DeltaRowsLaw" 41 y_Model_read b_Model_read 6 (some .int) 0 := ⟨zW_at 448 rfl rfl, zW_at 28 (by decide +kernel) rfl, zW_at 445 (by decide +kernel) rfl, zW_at 446 (by decide +kernel) rfl, zW_at 447 (by decide +kernel) rfl, by decide +kernel, by decide +kernel, by decide +kernel⟩
set_option maxRecDepth 100000 in
theorem kk_Model_90 : zVW R_Model 90 y_Model_varint b_Model_varint 6 (some .long) 0 := ⟨zW_at 452 rfl rfl, zW_at 28 (by decide +kernel) rfl, zW_at 449 (by decide +kernel) rfl, zW_at 451 (by decide +kernel) rfl, zW_at 19 (by decide +kernel) rfl, by decide +kernel, by decide +kernel, by decide +kernel⟩
set_option maxRecDepth 100000 in
theorem kk_Model_86 : zVW R_Model 86 y_Model_next b_Model_next 1 (some .int) 0 := ⟨zW_at 456 rfl rfl, zW_at 28 (by decide +kernel) rfl, zW_at 453 (by decide +kernel) rfl, zW_at 455 (by decide +kernel) rfl, zW_at 20 (by decide +kernel) rfl, by decide +kernel, by decide +kernel, by decide +kernel⟩
set_option maxRecDepth 100000 in
theorem kk_Model_82 : zVW R_Model 82 y_Model_fail b_Model_fail 3 none 2 := ⟨zW_at 460 rfl rfl, zW_at 28 (by decide +kernel) rfl, zW_at 457 (by decide +kernel) rfl, zW_at 459 (by decide +kernel) rfl, zW_at 21 (by decide +kernel) rfl, by decide +kernel, by decide +kernel, by decide +kernel⟩
set_option maxRecDepth 100000 in
theorem kk_Model_94 : zSW R_Model 94 y_Model_unzigzag b_Model_unzigzag 2 (some .long) 1 := ⟨zW_at 464 rfl rfl, zW_at 28 (by decide +kernel) rfl, zW_at 462 (by decide +kernel) rfl, zW_at 463 (by decide +kernel) rfl, by decide +kernel, by decide +kernel, by decide +kernel⟩
set_option maxRecDepth 100000 in
theorem kk_Model_103 : zVW R_Model 103 y_Model_readBlock b_Model_readBlock 13 none 3 := ⟨zW_at 468 rfl rfl, zW_at 28 (by decide +kernel) rfl, zW_at 465 (by decide +kernel) rfl, zW_at 467 (by decide +kernel) rfl, zW_at 22 (by decide +kernel) rfl, by decide +kernel, by decide +kernel, by decide +kernel⟩
set_option maxRecDepth 100000 in
theorem kk_Model_97 : zSW R_Model 97 y_Model_inPart b_Model_inPart 2 (some .int) 2 := ⟨zW_at 471 rfl rfl, zW_at 28 (by decide +kernel) rfl, zW_at 469 (by decide +kernel) rfl, zW_at 470 (by decide +kernel) rfl, by decide +kernel, by decide +kernel, by decide +kernel⟩
set_option maxRecDepth 100000 in
theorem kk_law_45 : zVW "DeltaRowsLaw" 45 y_Model_place b_Model_place 1 (some .int) 0 := ⟨zW_at 475 rfl rfl, zW_at 28 (by decide +kernel) rfl, zW_at 472 (by decide +kernel) rfl, zW_at 473 (by decide +kernel) rfl, zW_at 474 (by decide +kernel) rfl, by decide +kernel, by decide +kernel, by decide +kernel⟩
set_option maxRecDepth 100000 in
theorem kk_law_49 : zVW "DeltaRowsLaw" 49 y_Model_size b_Model_size 1 (some .int) 0 := ⟨zW_at 479 rfl rfl, zW_at 28 (by decide +kernel) rfl, zW_at 476 (by decide +kernel) rfl, zW_at 477 (by decide +kernel) rfl, zW_at 478 (by decide +kernel) rfl, by decide +kernel, by decide +kernel, by decide +kernel⟩
set_option maxRecDepth 100000 in
theorem kk_law_54 : zVW "DeltaRowsLaw" 54 y_Model_byteAt b_Model_byteAt 2 (some .int) 1 := ⟨zW_at 483 rfl rfl, zW_at 28 (by decide +kernel) rfl, zW_at 480 (by decide +kernel) rfl, zW_at 481 (by decide +kernel) rfl, zW_at 482 (by decide +kernel) rfl, by decide +kernel, by decide +kernel, by decide +kernel⟩
set_option maxRecDepth 100000 in
theorem kk_law_59 : zVW "DeltaRowsLaw" 59 y_Model_setByte b_Model_setByte 3 (some .boolean) 2 := ⟨zW_at 487 rfl rfl, zW_at 28 (by decide +kernel) rfl, zW_at 484 (by decide +kernel) rfl, zW_at 485 (by decide +kernel) rfl, zW_at 486 (by decide +kernel) rfl, by decide +kernel, by decide +kernel, by decide +kernel⟩
set_option maxRecDepth 100000 in
theorem kk_law_64 : zVW "DeltaRowsLaw" 64 y_Model_append b_Model_append 2 (some .boolean) 1 := ⟨zW_at 491 rfl rfl, zW_at 28 (by decide +kernel) rfl, zW_at 488 (by decide +kernel) rfl, zW_at 489 (by decide +kernel) rfl, zW_at 490 (by decide +kernel) rfl, by decide +kernel, by decide +kernel, by decide +kernel⟩
set_option maxRecDepth 100000 in
theorem kk_law_68 : zVW "DeltaRowsLaw" 68 y_Model_cut b_Model_cut 2 (some .boolean) 1 := ⟨zW_at 495 rfl rfl, zW_at 28 (by decide +kernel) rfl, zW_at 492 (by decide +kernel) rfl, zW_at 493 (by decide +kernel) rfl, zW_at 494 (by decide +kernel) rfl, by decide +kernel, by decide +kernel, by decide +kernel⟩
set_option maxRecDepth 100000 in
theorem kk_law_72 : zVW "DeltaRowsLaw" 72 y_Model_blocks b_Model_blocks 1 (some .int) 0 := ⟨zW_at 499 rfl rfl, zW_at 28 (by decide +kernel) rfl, zW_at 496 (by decide +kernel) rfl, zW_at 497 (by decide +kernel) rfl, zW_at 498 (by decide +kernel) rfl, by decide +kernel, by decide +kernel, by decide +kernel⟩
set_option maxRecDepth 100000 in
theorem kk_law_76 : zVW "DeltaRowsLaw" 76 y_Model_least b_Model_least 2 (some .long) 1 := ⟨zW_at 503 rfl rfl, zW_at 28 (by decide +kernel) rfl, zW_at 500 (by decide +kernel) rfl, zW_at 501 (by decide +kernel) rfl, zW_at 502 (by decide +kernel) rfl, by decide +kernel, by decide +kernel, by decide +kernel⟩
set_option maxRecDepth 100000 in
theorem kk_law_81 : zVW "DeltaRowsLaw" 81 y_Model_width b_Model_width 3 (some .int) 2 := ⟨zW_at 507 rfl rfl, zW_at 28 (by decide +kernel) rfl, zW_at 504 (by decide +kernel) rfl, zW_at 505 (by decide +kernel) rfl, zW_at 506 (by decide +kernel) rfl, by decide +kernel, by decide +kernel, by decide +kernel⟩
set_option maxRecDepth 100000 in
theorem kk_law_85 : zVW "DeltaRowsLaw" 85 y_Model_start b_Model_start 3 (some .int) 2 := ⟨zW_at 511 rfl rfl, zW_at 28 (by decide +kernel) rfl, zW_at 508 (by decide +kernel) rfl, zW_at 509 (by decide +kernel) rfl, zW_at 510 (by decide +kernel) rfl, by decide +kernel, by decide +kernel, by decide +kernel⟩
end
section
/-! what the class's small methods answer, as functions -/
abbrev BB : Type := (Nat → Int64) × Nat
def p_has (us : Nat) (k : Int32) : Bool := decide (¬ k < 0 ∧ ¬ nI us ≤ k)
theorem p_has_of {us : Nat} {k : Int32} (hu : us < 2 ^ 31) (h : p_has us k = true) : ∃ j : Nat, j < us ∧ k = nI j := by
  have h1 := of_decide_eq_true h
  rcases pk_ix k hu with z | z | z
  · exact absurd z h1.1
  · exact absurd z h1.2
  · exact z
theorem p_has_nI {us j : Nat} (hu : us < 2 ^ 31) (hj : j < 2 ^ 31) : p_has us (nI j) = decide (j < us) := by
  unfold p_has
  refine decide_eq_decide.mpr ⟨fun h => ?_, fun h => ⟨nI_pos hj, fun z => ?_⟩⟩
  · exact Nat.lt_of_not_le fun z => h.2 (nI_le z hj)
  · exact absurd ((nI_leI hu hj).mp z) (by omega)
def p_hp (bc : Nat) (k p : Int32) : Bool := decide (p_has bc k = true ∧ ¬ p < 0 ∧ ¬ nI 4 ≤ p)
theorem p_hp_of {bc : Nat} {k p : Int32} (hu : bc < 2 ^ 31) (h : p_hp bc k p = true) : ∃ j i : Nat, j < bc ∧ i < 4 ∧ k = nI j ∧ p = nI i := by
  have h1 := of_decide_eq_true h
  obtain ⟨j, hj, e⟩ := p_has_of hu h1.1
  rcases pk_ix p (n := 4) (by decide) with z | z | ⟨i, hi, e2⟩
  · exact absurd z h1.2.1
  · exact absurd z h1.2.2
  · exact ⟨j, i, hj, hi, e, e2⟩
def p_add (b : BB) (v : Int32) : BB := if b.2 < 20000 then (p_chg b.1 b.2 v, b.2 + 1) else b
theorem p_add_le {b : BB} {v : Int32} (h : b.2 ≤ 20000) : (p_add b v).2 ≤ 20000 := by
  unfold p_add
  by_cases h1 : b.2 < 20000
  · rw [if_pos h1]; exact h1
  · rw [if_neg h1]; exact h
def p_avl : Nat → BB → Int64 → BB
  | 0, b, r => p_add b r.toInt32
  | n + 1, b, r => if r &&& (-128) = 0 then p_add b r.toInt32 else p_avl n (p_add b ((r &&& 127).toInt32 ||| nI 128)) (zushr r (nI 7))
def p_av (b : BB) (v : Int64) : BB := p_avl 9 b v
theorem p_avl_le : ∀ (n : Nat) {b : BB} {v : Int64}, b.2 ≤ 20000 → (p_avl n b v).2 ≤ 20000
  | 0, _, _, h => p_add_le h
  | n + 1, b, v, h => by
    unfold p_avl
    by_cases h1 : v &&& (-128) = 0
    · rw [if_pos h1]; exact p_add_le h
    · rw [if_neg h1]; exact p_avl_le n (p_add_le h)
theorem p_av_le {b : BB} {v : Int64} (h : b.2 ≤ 20000) : (p_av b v).2 ≤ 20000 := p_avl_le 9 h
def p_bf (t : Nat) : Nat := if 1 < t then (t - 1 + 64 - 1) / 64 else 0
def p_pe (b p t : Nat) : Nat := min (1 + b * 64 + p * 16) t
def p_zig (v : Int64) : Int64 := zshl v (nI 1) ^^^ zshr v (nI 63)
def p_unzig (z : Int64) : Int64 := zushr z (nI 1) ^^^ (-(z &&& 1))
end
section
set_option maxHeartbeats 4000000 in
set_option maxRecDepth 100000 in
theorem c_ByteRow_has (l : Launch) (D : va_G) (cI cJ : ClassId) (h0 : Nat) (hw : Nat) (us : Nat) (k : Int32) (hu : us < 1000000) : Ct l D (zT cI cJ) y_ByteRow_has b_ByteRow_has 2 (some .boolean) 0 0 0 0 [.ref h0, .int k] [(h0, .inr (0, [.ref hw, .int (nI us)]))] (zEq (some (.int (zb (p_has us k)))) [(h0, .inr (0, [.ref hw, .int (nI us)]))]) := by
  refine Ct.ofW (by decide) (Nat.le_of_ble_eq_true rfl) ?_
  intro p e s m below meth c A ls C0 hP hD hS hl
  obtain ⟨hx, hb, hml, hown, hts, hK, hN, hr, hlocks, hA, hnm⟩ := C0
  have hl : lv_has ls 2 [(0, .ref h0), (1, .int k)] := hl
  have hown : s.vm.findClass R_ByteRow = some m.cls := hown
  refine lv_iload_n hx hb d_ByteRow_has_0 rfl (lv_at hl 1 rfl) ?_
  refine lv_if_lt (tgt := 16) hx hb d_ByteRow_has_1 (by decide) (fun c_1 => ?_) (fun c_1 => ?_)
  · skip
    refine lv_iconst (v := nI 0) hx hb d_ByteRow_has_16 (by decide +kernel) ?_
    exact z_bret hx hb hr hlocks (Or.inl rfl) hS hP hD ⟨zb_f (decide_eq_false (fun z => by first | exact z.1 c_1 | exact z.2 c_9 | (rw [c_1] at z; exact absurd z.1 (by decide)) | (rw [c_9] at z; exact absurd z.1 (by decide)))), rfl⟩ d_ByteRow_has_17
  · skip
    refine lv_iload_n hx hb d_ByteRow_has_4 rfl (lv_at hl 1 rfl) ?_
    refine lv_aload_n hx hb d_ByteRow_has_5 rfl (lv_at hl 0 rfl) ?_
    refine g_ByteRow_15 hx hb hts hown hK hP 0 rfl rfl d_ByteRow_has_6 ?_
    refine lv_icmp_ge (tgt := 16) hx hb d_ByteRow_has_9 (by decide) (fun c_9 => ?_) (fun c_9 => ?_)
    · skip
      refine lv_iconst (v := nI 0) hx hb d_ByteRow_has_16 (by decide +kernel) ?_
      exact z_bret hx hb hr hlocks (Or.inl rfl) hS hP hD ⟨zb_f (decide_eq_false (fun z => by first | exact z.1 c_1 | exact z.2 c_9 | (rw [c_1] at z; exact absurd z.1 (by decide)) | (rw [c_9] at z; exact absurd z.1 (by decide)))), rfl⟩ d_ByteRow_has_17
    · skip
      refine lv_iconst (v := nI 1) hx hb d_ByteRow_has_12 (by decide +kernel) ?_
      refine lv_goto (tgt := 17) hx hb d_ByteRow_has_13 (by decide) ?_
      exact z_bret hx hb hr hlocks (Or.inr rfl) hS hP hD ⟨zb_t (decide_eq_true ⟨c_1, c_9⟩), rfl⟩ d_ByteRow_has_17

set_option maxHeartbeats 4000000 in
set_option maxRecDepth 100000 in
theorem c_ByteRow_hasRoom (l : Launch) (D : va_G) (cI cJ : ClassId) (h0 : Nat) (hw : Nat) (us : Nat) (q : Nat) (w : Nat) (hq : q < 1000000) (hw1 : w < 1000000) : Ct l D (zT cI cJ) y_ByteRow_hasRoom b_ByteRow_hasRoom 3 (some .boolean) 0 0 0 0 [.ref h0, .int (nI q), .int (nI w)] [(h0, .inr (0, [.ref hw, .int (nI us)]))] (zEq (some (.int (zb (p_room q w)))) [(h0, .inr (0, [.ref hw, .int (nI us)]))]) := by
  refine Ct.ofW (by decide) (Nat.le_of_ble_eq_true rfl) ?_
  intro p e s m below meth c A ls C0 hP hD hS hl
  obtain ⟨hx, hb, hml, hown, hts, hK, hN, hr, hlocks, hA, hnm⟩ := C0
  have hl : lv_has ls 3 [(0, .ref h0), (1, .int (nI q)), (2, .int (nI w))] := hl
  have hown : s.vm.findClass R_ByteRow = some m.cls := hown
  refine lv_iload_n hx hb d_ByteRow_hasRoom_0 rfl (lv_at hl 1 rfl) ?_
  refine z0_lt (by omega) hx hb d_ByteRow_hasRoom_1 (tgt := 26) (by decide) ?_
  refine lv_iload_n hx hb d_ByteRow_hasRoom_4 rfl (lv_at hl 2 rfl) ?_
  refine z0_le (a := w) (by omega) hx hb d_ByteRow_hasRoom_5 (tgt := 26) (by decide) (fun c_5 => ?_) (fun c_5 => ?_)
  · skip
    refine lv_iconst (v := nI 0) hx hb d_ByteRow_hasRoom_26 (by decide +kernel) ?_
    exact z_bret hx hb hr hlocks (Or.inl rfl) hS hP hD ⟨zb_f (decide_eq_false (by omega)), rfl⟩ d_ByteRow_hasRoom_27
  · skip
    refine lv_iload_n hx hb d_ByteRow_hasRoom_8 rfl (lv_at hl 2 rfl) ?_
    refine lv_bipush (v := nI 64) hx hb d_ByteRow_hasRoom_9 (by decide +kernel) ?_
    refine zn_gt (a := w) (b := 64) (by omega) (by omega) hx hb d_ByteRow_hasRoom_11 (tgt := 26) (by decide) (fun c_11 => ?_) (fun c_11 => ?_)
    · skip
      refine lv_iconst (v := nI 0) hx hb d_ByteRow_hasRoom_26 (by decide +kernel) ?_
      exact z_bret hx hb hr hlocks (Or.inl rfl) hS hP hD ⟨zb_f (decide_eq_false (by omega)), rfl⟩ d_ByteRow_hasRoom_27
    · skip
      refine lv_iload_n hx hb d_ByteRow_hasRoom_14 rfl (lv_at hl 1 rfl) ?_
      refine lv_ldc (v := nI 160000) hx hb hown (kc_ByteRow_49 hts) d_ByteRow_hasRoom_15 ?_
      refine lv_iload_n hx hb d_ByteRow_hasRoom_17 rfl (lv_at hl 2 rfl) ?_
      refine lv_isub hx hb d_ByteRow_hasRoom_18 (z_i (pk_sub (a := 160000) (b := w) (by omega)) ?_)
      refine zn_gt (a := q) (b := 160000 - w) (by omega) (by omega) hx hb d_ByteRow_hasRoom_19 (tgt := 26) (by decide) (fun c_19 => ?_) (fun c_19 => ?_)
      · skip
        refine lv_iconst (v := nI 0) hx hb d_ByteRow_hasRoom_26 (by decide +kernel) ?_
        exact z_bret hx hb hr hlocks (Or.inl rfl) hS hP hD ⟨zb_f (decide_eq_false (by omega)), rfl⟩ d_ByteRow_hasRoom_27
      · skip
        refine lv_iconst (v := nI 1) hx hb d_ByteRow_hasRoom_22 (by decide +kernel) ?_
        refine lv_goto (tgt := 27) hx hb d_ByteRow_hasRoom_23 (by decide) ?_
        exact z_bret hx hb hr hlocks (Or.inr rfl) hS hP hD ⟨zb_t (decide_eq_true (by omega)), rfl⟩ d_ByteRow_hasRoom_27

set_option maxHeartbeats 4000000 in
set_option maxRecDepth 100000 in
theorem c_ByteRow_maskOf (l : Launch) (D : va_G) (cI cJ : ClassId) (w : Nat) (hw1 : w ≤ 64) : Ct l D (zT cI cJ) y_ByteRow_maskOf b_ByteRow_maskOf 1 (some .long) 0 0 0 0 [.int (nI w)] [] (zEq (some (.long (p_mask w))) []) := by
  refine Ct.ofW (by decide) (Nat.le_of_ble_eq_true rfl) ?_
  intro p e s m below meth c A ls C0 hP hD hS hl
  obtain ⟨hx, hb, hml, hown, hts, hK, hN, hr, hlocks, hA, hnm⟩ := C0
  have hl : lv_has ls 1 [(0, .int (nI w))] := hl
  have hown : s.vm.findClass R_ByteRow = some m.cls := hown
  refine lv_ldc2 (v := (-1)) hx hb hown (kc_ByteRow_47 hts) d_ByteRow_maskOf_0 ?_
  refine lv_bipush (v := nI 64) hx hb d_ByteRow_maskOf_3 (by decide +kernel) ?_
  refine lv_iload_n hx hb d_ByteRow_maskOf_5 rfl (lv_at hl 0 rfl) ?_
  refine lv_isub hx hb d_ByteRow_maskOf_6 (z_i (pk_sub (a := 64) (b := w) (by omega)) ?_)
  refine lv_lushr (v := zushr (-1) (nI (64 - w))) hx hb d_ByteRow_maskOf_7 rfl ?_
  exact z_lret hx hb hr hlocks hS hP hD ⟨rfl, rfl⟩ d_ByteRow_maskOf_8

set_option maxHeartbeats 4000000 in
set_option maxRecDepth 100000 in
theorem c_ByteRow_bitsIn (l : Launch) (D : va_G) (cI cJ : ClassId) (h0 : Nat) (hw : Nat) (b : BB) (q : Nat) (w : Nat) (hq : q < 1000000) (hw1 : w < 1000000) : Ct l D (zT cI cJ) y_ByteRow_bitsIn b_ByteRow_bitsIn 7 (some .long) 1 22 0 0 [.ref h0, .int (nI q), .int (nI w)] [(h0, .inr (0, [.ref hw, .int (nI b.2)])), (hw, .inl (cJ, 2500, .inr (.inl b.1)))] (zEq (some (.long (p_bitsIn b.1 q w))) [(h0, .inr (0, [.ref hw, .int (nI b.2)])), (hw, .inl (cJ, 2500, .inr (.inl b.1)))]) := by
  refine Ct.ofW (by decide) (Nat.le_of_ble_eq_true rfl) ?_
  intro p e s m below meth c A ls C0 hP hD hS hl
  obtain ⟨hx, hb, hml, hown, hts, hK, hN, hr, hlocks, hA, hnm⟩ := C0
  have hl : lv_has ls 7 [(0, .ref h0), (1, .int (nI q)), (2, .int (nI w))] := hl
  have hown : s.vm.findClass R_ByteRow = some m.cls := hown
  refine lv_aload_n hx hb d_ByteRow_bitsIn_0 rfl (lv_at hl 0 rfl) ?_
  refine lv_iload_n hx hb d_ByteRow_bitsIn_1 rfl (lv_at hl 1 rfl) ?_
  refine lv_iload_n hx hb d_ByteRow_bitsIn_2 rfl (lv_at hl 2 rfl) ?_
  refine z_callEi (wr := [(hw, .inl (cJ, 2500, .inr (.inl b.1)))]) (w2 := [(h0, .inr (0, [.ref hw, .int (nI b.2)])), (hw, .inl (cJ, 2500, .inr (.inl b.1)))]) (z_runV (rest := []) hx hb hml hown hts hK hN (c_ByteRow_hasRoom l D cI cJ h0 hw b.2 q w (by (try dsimp only); omega) (by (try dsimp only); omega)) kk_ByteRow_39 (zP.cut hP [0] rfl) (hD.sub [0] (by decide) rfl) 0 rfl rfl rfl hl.1 rfl (Nat.le_of_ble_eq_true rfl) d_ByteRow_bitsIn_3 (by decide) (by decide)) hP hD hS hA [0] [1] [1, 0] rfl rfl (by decide) (by decide) (by decide) rfl (fun H locs hP hD hS => ?_)
  refine zb_ne (tgt := 11) hx hb d_ByteRow_bitsIn_6 (by decide) (fun c_6 => ?_) (fun c_6 => ?_)
  · skip
    obtain ⟨r0, r1, r2⟩ := of_decide_eq_true (show decide (0 < w ∧ w ≤ 64 ∧ q + w ≤ 160000) = true from c_6)
    refine lv_iload_n hx hb d_ByteRow_bitsIn_11 rfl (lv_at hl 1 rfl) ?_
    refine lv_bipush (v := nI 64) hx hb d_ByteRow_bitsIn_12 (by decide +kernel) ?_
    refine lv_idiv hx hb d_ByteRow_bitsIn_14 (nI_ne0 (by omega) (by omega)) (z_i (pk_div (a := q) (d := 64) (by omega) (by omega) (by omega)) ?_)
    refine lv_istore_n (lv' := [(3, .int (nI (q / 64))), (0, .ref h0), (1, .int (nI q)), (2, .int (nI w))]) hx hb d_ByteRow_bitsIn_15 rfl hl (by decide) rfl (fun ls hl => ?_)
    refine lv_iload_n hx hb d_ByteRow_bitsIn_16 rfl (lv_at hl 2 rfl) ?_
    refine lv_bipush (v := nI 64) hx hb d_ByteRow_bitsIn_17 (by decide +kernel) ?_
    refine lv_irem hx hb d_ByteRow_bitsIn_19 (nI_ne0 (by omega) (by omega)) (z_i (zrem (a := q) (d := 64) (by omega) (by omega) (by omega)) ?_)
    refine lv_istore (lv' := [(4, .int (nI (q % 64))), (3, .int (nI (q / 64))), (0, .ref h0), (1, .int (nI q)), (2, .int (nI w))]) hx hb d_ByteRow_bitsIn_20 hl (by decide) rfl (fun ls hl => ?_)
    refine lv_aload_n hx hb d_ByteRow_bitsIn_22 rfl (lv_at hl 2 rfl) ?_
    refine g_ByteRow_9 hx hb hts hown hK hP 0 rfl rfl d_ByteRow_bitsIn_23 ?_
    refine lv_iload_n hx hb d_ByteRow_bitsIn_26 rfl (lv_at hl 1 rfl) ?_
    refine z_lald hx hb hK hP 1 1 rfl rfl (by omega) (by decide) d_ByteRow_bitsIn_27 ?_
    refine lv_iload hx hb d_ByteRow_bitsIn_28 (lv_at hl 0 rfl) ?_
    refine lv_lushr (v := zushr (b.1 (q / 64)) (nI (q % 64))) hx hb d_ByteRow_bitsIn_30 rfl ?_
    refine lv_lstore (lv' := [(5, .long (zushr (b.1 (q / 64)) (nI (q % 64)))), (4, .int (nI (q % 64))), (3, .int (nI (q / 64))), (0, .ref h0), (1, .int (nI q)), (2, .int (nI w))]) hx hb d_ByteRow_bitsIn_31 hl (by decide) rfl (fun ls hl => ?_)
    refine lv_iload hx hb d_ByteRow_bitsIn_33 (lv_at hl 1 rfl) ?_
    refine lv_iload_n hx hb d_ByteRow_bitsIn_35 rfl (lv_at hl 5 rfl) ?_
    refine lv_iadd hx hb d_ByteRow_bitsIn_36 (z_i (nI_add (q % 64) w) ?_)
    refine lv_bipush (v := nI 64) hx hb d_ByteRow_bitsIn_37 (by decide +kernel) ?_
    refine zn_le (a := q % 64 + w) (b := 64) (by omega) (by omega) hx hb d_ByteRow_bitsIn_39 (tgt := 61) (by decide) (fun c_39 => ?_) (fun c_39 => ?_)
    · skip
      refine lv_lload hx hb d_ByteRow_bitsIn_61 (lv_at hl 0 rfl) ?_
      refine lv_iload_n hx hb d_ByteRow_bitsIn_63 rfl (lv_at hl 5 rfl) ?_
      refine z_callEl (wr := [(h0, .inr (0, [.ref hw, .int (nI b.2)])), (hw, .inl (cJ, 2500, .inr (.inl b.1)))]) (w2 := [(h0, .inr (0, [.ref hw, .int (nI b.2)])), (hw, .inl (cJ, 2500, .inr (.inl b.1)))]) (z_runS (rest := [.long (zushr (b.1 (q / 64)) (nI (q % 64)))]) hx hb hml hown hts hK hN (c_ByteRow_maskOf l D cI cJ w (by (try dsimp only); omega)) kk_ByteRow_43 (zP.cut hP [] rfl) (hD.sub [] (by decide) rfl) rfl hl.1 rfl (Nat.le_of_ble_eq_true rfl) d_ByteRow_bitsIn_64 (by decide) (by decide)) hP hD hS hA [] [0, 1] [0, 1] rfl rfl (by decide) (by decide) (by decide) rfl (fun H locs hP hD hS => ?_)
      refine lv_land hx hb d_ByteRow_bitsIn_67 ?_
      exact z_lret hx hb hr hlocks hS hP hD ⟨by unfold p_bitsIn; rw [if_pos c_6]; first | rw [if_pos c_39] | rw [if_neg (Nat.not_le.mpr c_39)], rfl⟩ d_ByteRow_bitsIn_68
    · skip
      refine lv_lload hx hb d_ByteRow_bitsIn_42 (lv_at hl 0 rfl) ?_
      refine lv_aload_n hx hb d_ByteRow_bitsIn_44 rfl (lv_at hl 3 rfl) ?_
      refine g_ByteRow_9 hx hb hts hown hK hP 0 rfl rfl d_ByteRow_bitsIn_45 ?_
      refine lv_iload_n hx hb d_ByteRow_bitsIn_48 rfl (lv_at hl 2 rfl) ?_
      refine lv_iconst (v := nI 1) hx hb d_ByteRow_bitsIn_49 (by decide +kernel) ?_
      refine lv_iadd hx hb d_ByteRow_bitsIn_50 (z_i (nI_add (q / 64) 1) ?_)
      refine z_lald hx hb hK hP 1 1 rfl rfl (by omega) (by decide) d_ByteRow_bitsIn_51 ?_
      refine lv_bipush (v := nI 64) hx hb d_ByteRow_bitsIn_52 (by decide +kernel) ?_
      refine lv_iload hx hb d_ByteRow_bitsIn_54 (lv_at hl 1 rfl) ?_
      refine lv_isub hx hb d_ByteRow_bitsIn_56 (z_i (pk_sub (a := 64) (b := q % 64) (by omega)) ?_)
      refine lv_lshl (v := zshl (b.1 (q / 64 + 1)) (nI (64 - (q % 64)))) hx hb d_ByteRow_bitsIn_57 rfl ?_
      refine lv_lor hx hb d_ByteRow_bitsIn_58 ?_
      refine lv_lstore (lv' := [(5, .long ((zushr (b.1 (q / 64)) (nI (q % 64))) ||| (zshl (b.1 (q / 64 + 1)) (nI (64 - (q % 64)))))), (4, .int (nI (q % 64))), (3, .int (nI (q / 64))), (0, .ref h0), (1, .int (nI q)), (2, .int (nI w))]) hx hb d_ByteRow_bitsIn_59 hl (by decide) rfl (fun ls hl => ?_)
      refine lv_lload hx hb d_ByteRow_bitsIn_61 (lv_at hl 0 rfl) ?_
      refine lv_iload_n hx hb d_ByteRow_bitsIn_63 rfl (lv_at hl 5 rfl) ?_
      refine z_callEl (wr := [(h0, .inr (0, [.ref hw, .int (nI b.2)])), (hw, .inl (cJ, 2500, .inr (.inl b.1)))]) (w2 := [(h0, .inr (0, [.ref hw, .int (nI b.2)])), (hw, .inl (cJ, 2500, .inr (.inl b.1)))]) (z_runS (rest := [.long ((zushr (b.1 (q / 64)) (nI (q % 64))) ||| (zshl (b.1 (q / 64 + 1)) (nI (64 - (q % 64)))))]) hx hb hml hown hts hK hN (c_ByteRow_maskOf l D cI cJ w (by (try dsimp only); omega)) kk_ByteRow_43 (zP.cut hP [] rfl) (hD.sub [] (by decide) rfl) rfl hl.1 rfl (Nat.le_of_ble_eq_true rfl) d_ByteRow_bitsIn_64 (by decide) (by decide)) hP hD hS hA [] [0, 1] [0, 1] rfl rfl (by decide) (by decide) (by decide) rfl (fun H locs hP hD hS => ?_)
      refine lv_land hx hb d_ByteRow_bitsIn_67 ?_
      exact z_lret hx hb hr hlocks hS hP hD ⟨by unfold p_bitsIn; rw [if_pos c_6]; first | rw [if_pos c_39] | rw [if_neg (Nat.not_le.mpr c_39)], rfl⟩ d_ByteRow_bitsIn_68
  · skip
    refine lv_lconst (v := 0) hx hb d_ByteRow_bitsIn_9 (by decide +kernel) ?_
    exact z_lret hx hb hr hlocks hS hP hD ⟨by unfold p_bitsIn; rw [if_neg (by rw [c_6]; decide)], rfl⟩ d_ByteRow_bitsIn_10

set_option maxHeartbeats 4000000 in
set_option maxRecDepth 100000 in
theorem c_ByteRow_setBits (l : Launch) (D : va_G) (cI cJ : ClassId) (h0 : Nat) (hw : Nat) (b : BB) (q : Nat) (w : Nat) (v : Int64) (hq : q < 1000000) (hw1 : w < 1000000) : Ct l D (zT cI cJ) y_ByteRow_setBits b_ByteRow_setBits 12 none 1 22 0 0 [.ref h0, .int (nI q), .int (nI w), .long v] [(h0, .inr (0, [.ref hw, .int (nI b.2)])), (hw, .inl (cJ, 2500, .inr (.inl b.1)))] (zEq none [(h0, .inr (0, [.ref hw, .int (nI b.2)])), (hw, .inl (cJ, 2500, .inr (.inl (p_setBits b.1 q w v))))]) := by
  refine Ct.ofW (by decide) (Nat.le_of_ble_eq_true rfl) ?_
  intro p e s m below meth c A ls C0 hP hD hS hl
  obtain ⟨hx, hb, hml, hown, hts, hK, hN, hr, hlocks, hA, hnm⟩ := C0
  have hl : lv_has ls 12 [(0, .ref h0), (1, .int (nI q)), (2, .int (nI w)), (3, .long v)] := hl
  have hown : s.vm.findClass R_ByteRow = some m.cls := hown
  refine lv_aload_n hx hb d_ByteRow_setBits_0 rfl (lv_at hl 0 rfl) ?_
  refine lv_iload_n hx hb d_ByteRow_setBits_1 rfl (lv_at hl 1 rfl) ?_
  refine lv_iload_n hx hb d_ByteRow_setBits_2 rfl (lv_at hl 2 rfl) ?_
  refine z_callEi (wr := [(hw, .inl (cJ, 2500, .inr (.inl b.1)))]) (w2 := [(h0, .inr (0, [.ref hw, .int (nI b.2)])), (hw, .inl (cJ, 2500, .inr (.inl b.1)))]) (z_runV (rest := []) hx hb hml hown hts hK hN (c_ByteRow_hasRoom l D cI cJ h0 hw b.2 q w (by (try dsimp only); omega) (by (try dsimp only); omega)) kk_ByteRow_39 (zP.cut hP [0] rfl) (hD.sub [0] (by decide) rfl) 0 rfl rfl rfl hl.1 rfl (Nat.le_of_ble_eq_true rfl) d_ByteRow_setBits_3 (by decide) (by decide)) hP hD hS hA [0] [1] [1, 0] rfl rfl (by decide) (by decide) (by decide) rfl (fun H locs hP hD hS => ?_)
  refine zb_ne (tgt := 10) hx hb d_ByteRow_setBits_6 (by decide) (fun c_6 => ?_) (fun c_6 => ?_)
  · skip
    obtain ⟨r0, r1, r2⟩ := of_decide_eq_true (show decide (0 < w ∧ w ≤ 64 ∧ q + w ≤ 160000) = true from c_6)
    refine lv_iload_n hx hb d_ByteRow_setBits_10 rfl (lv_at hl 1 rfl) ?_
    refine lv_bipush (v := nI 64) hx hb d_ByteRow_setBits_11 (by decide +kernel) ?_
    refine lv_idiv hx hb d_ByteRow_setBits_13 (nI_ne0 (by omega) (by omega)) (z_i (pk_div (a := q) (d := 64) (by omega) (by omega) (by omega)) ?_)
    refine lv_istore (lv' := [(5, .int (nI (q / 64))), (0, .ref h0), (1, .int (nI q)), (2, .int (nI w)), (3, .long v)]) hx hb d_ByteRow_setBits_14 hl (by decide) rfl (fun ls hl => ?_)
    refine lv_iload_n hx hb d_ByteRow_setBits_16 rfl (lv_at hl 2 rfl) ?_
    refine lv_bipush (v := nI 64) hx hb d_ByteRow_setBits_17 (by decide +kernel) ?_
    refine lv_irem hx hb d_ByteRow_setBits_19 (nI_ne0 (by omega) (by omega)) (z_i (zrem (a := q) (d := 64) (by omega) (by omega) (by omega)) ?_)
    refine lv_istore (lv' := [(6, .int (nI (q % 64))), (5, .int (nI (q / 64))), (0, .ref h0), (1, .int (nI q)), (2, .int (nI w)), (3, .long v)]) hx hb d_ByteRow_setBits_20 hl (by decide) rfl (fun ls hl => ?_)
    refine lv_iload_n hx hb d_ByteRow_setBits_22 rfl (lv_at hl 4 rfl) ?_
    refine z_callEl (wr := [(h0, .inr (0, [.ref hw, .int (nI b.2)])), (hw, .inl (cJ, 2500, .inr (.inl b.1)))]) (w2 := [(h0, .inr (0, [.ref hw, .int (nI b.2)])), (hw, .inl (cJ, 2500, .inr (.inl b.1)))]) (z_runS (rest := []) hx hb hml hown hts hK hN (c_ByteRow_maskOf l D cI cJ w (by (try dsimp only); omega)) kk_ByteRow_43 (zP.cut hP [] rfl) (hD.sub [] (by decide) rfl) rfl hl.1 rfl (Nat.le_of_ble_eq_true rfl) d_ByteRow_setBits_23 (by decide) (by decide)) hP hD hS hA [] [0, 1] [0, 1] rfl rfl (by decide) (by decide) (by decide) rfl (fun H locs hP hD hS => ?_)
    refine lv_lstore (lv' := [(7, .long (p_mask w)), (6, .int (nI (q % 64))), (5, .int (nI (q / 64))), (0, .ref h0), (1, .int (nI q)), (2, .int (nI w)), (3, .long v)]) hx hb d_ByteRow_setBits_26 hl (by decide) rfl (fun ls hl => ?_)
    refine lv_lload_n hx hb d_ByteRow_setBits_28 rfl (lv_at hl 6 rfl) ?_
    refine lv_lload hx hb d_ByteRow_setBits_29 (lv_at hl 0 rfl) ?_
    refine lv_land hx hb d_ByteRow_setBits_31 ?_
    refine lv_lstore (lv' := [(9, .long (v &&& (p_mask w))), (7, .long (p_mask w)), (6, .int (nI (q % 64))), (5, .int (nI (q / 64))), (0, .ref h0), (1, .int (nI q)), (2, .int (nI w)), (3, .long v)]) hx hb d_ByteRow_setBits_32 hl (by decide) rfl (fun ls hl => ?_)
    refine lv_aload_n hx hb d_ByteRow_setBits_34 rfl (lv_at hl 4 rfl) ?_
    refine g_ByteRow_9 hx hb hts hown hK hP 0 rfl rfl d_ByteRow_setBits_35 ?_
    refine lv_iload hx hb d_ByteRow_setBits_38 (lv_at hl 3 rfl) ?_
    refine lv_aload_n hx hb d_ByteRow_setBits_40 rfl (lv_at hl 4 rfl) ?_
    refine g_ByteRow_9 hx hb hts hown hK hP 0 rfl rfl d_ByteRow_setBits_41 ?_
    refine lv_iload hx hb d_ByteRow_setBits_44 (lv_at hl 3 rfl) ?_
    refine z_lald hx hb hK hP 1 1 rfl rfl (by omega) (by decide) d_ByteRow_setBits_46 ?_
    refine lv_lload hx hb d_ByteRow_setBits_47 (lv_at hl 1 rfl) ?_
    refine lv_iload hx hb d_ByteRow_setBits_49 (lv_at hl 2 rfl) ?_
    refine lv_lshl (v := zshl (p_mask w) (nI (q % 64))) hx hb d_ByteRow_setBits_51 rfl ?_
    refine lv_ldc2 (v := (-1)) hx hb hown (kc_ByteRow_47 hts) d_ByteRow_setBits_52 ?_
    refine lv_lxor hx hb d_ByteRow_setBits_55 ?_
    refine lv_land hx hb d_ByteRow_setBits_56 ?_
    refine lv_lload hx hb d_ByteRow_setBits_57 (lv_at hl 0 rfl) ?_
    refine lv_iload hx hb d_ByteRow_setBits_59 (lv_at hl 2 rfl) ?_
    refine lv_lshl (v := zshl (v &&& (p_mask w)) (nI (q % 64))) hx hb d_ByteRow_setBits_61 rfl ?_
    refine lv_lor hx hb d_ByteRow_setBits_62 ?_
    refine z_last (w2 := [(h0, .inr (0, [.ref hw, .int (nI b.2)])), (hw, .inl (cJ, 2500, .inr (.inl (vp_updL b.1 (q / 64) (((b.1 (q / 64)) &&& ((zshl (p_mask w) (nI (q % 64))) ^^^ (-1))) ||| (zshl (v &&& (p_mask w)) (nI (q % 64))))))))]) hx hb hK hP hD hS 1 1 rfl rfl (by omega) (by decide) d_ByteRow_setBits_63 rfl (fun H locs hP hD hS => ?_)
    refine lv_iload hx hb d_ByteRow_setBits_64 (lv_at hl 2 rfl) ?_
    refine lv_iload_n hx hb d_ByteRow_setBits_66 rfl (lv_at hl 6 rfl) ?_
    refine lv_iadd hx hb d_ByteRow_setBits_67 (z_i (nI_add (q % 64) w) ?_)
    refine lv_bipush (v := nI 64) hx hb d_ByteRow_setBits_68 (by decide +kernel) ?_
    refine zn_le (a := q % 64 + w) (b := 64) (by omega) (by omega) hx hb d_ByteRow_setBits_70 (tgt := 114) (by decide) (fun c_70 => ?_) (fun c_70 => ?_)
    · skip
      exact z_vret hx hb hr hlocks hS hP hD ⟨rfl, by unfold p_setBits; rw [if_pos c_6]; first | (rw [if_pos c_70] <;> rfl) | (rw [if_neg (Nat.not_le.mpr c_70)] <;> rfl)⟩ d_ByteRow_setBits_114
    · skip
      refine lv_bipush (v := nI 64) hx hb d_ByteRow_setBits_73 (by decide +kernel) ?_
      refine lv_iload hx hb d_ByteRow_setBits_75 (lv_at hl 2 rfl) ?_
      refine lv_isub hx hb d_ByteRow_setBits_77 (z_i (pk_sub (a := 64) (b := q % 64) (by omega)) ?_)
      refine lv_istore (lv' := [(11, .int (nI (64 - (q % 64)))), (9, .long (v &&& (p_mask w))), (7, .long (p_mask w)), (6, .int (nI (q % 64))), (5, .int (nI (q / 64))), (0, .ref h0), (1, .int (nI q)), (2, .int (nI w)), (3, .long v)]) hx hb d_ByteRow_setBits_78 hl (by decide) rfl (fun ls hl => ?_)
      refine lv_aload_n hx hb d_ByteRow_setBits_80 rfl (lv_at hl 5 rfl) ?_
      refine g_ByteRow_9 hx hb hts hown hK hP 0 rfl rfl d_ByteRow_setBits_81 ?_
      refine lv_iload hx hb d_ByteRow_setBits_84 (lv_at hl 4 rfl) ?_
      refine lv_iconst (v := nI 1) hx hb d_ByteRow_setBits_86 (by decide +kernel) ?_
      refine lv_iadd hx hb d_ByteRow_setBits_87 (z_i (nI_add (q / 64) 1) ?_)
      refine lv_aload_n hx hb d_ByteRow_setBits_88 rfl (lv_at hl 5 rfl) ?_
      refine g_ByteRow_9 hx hb hts hown hK hP 0 rfl rfl d_ByteRow_setBits_89 ?_
      refine lv_iload hx hb d_ByteRow_setBits_92 (lv_at hl 4 rfl) ?_
      refine lv_iconst (v := nI 1) hx hb d_ByteRow_setBits_94 (by decide +kernel) ?_
      refine lv_iadd hx hb d_ByteRow_setBits_95 (z_i (nI_add (q / 64) 1) ?_)
      refine z_lald hx hb hK hP 1 1 rfl rfl (by omega) (by decide) d_ByteRow_setBits_96 ?_
      refine lv_lload hx hb d_ByteRow_setBits_97 (lv_at hl 2 rfl) ?_
      refine lv_iload hx hb d_ByteRow_setBits_99 (lv_at hl 0 rfl) ?_
      refine lv_lushr (v := zushr (p_mask w) (nI (64 - (q % 64)))) hx hb d_ByteRow_setBits_101 rfl ?_
      refine lv_ldc2 (v := (-1)) hx hb hown (kc_ByteRow_47 hts) d_ByteRow_setBits_102 ?_
      refine lv_lxor hx hb d_ByteRow_setBits_105 ?_
      refine lv_land hx hb d_ByteRow_setBits_106 ?_
      refine lv_lload hx hb d_ByteRow_setBits_107 (lv_at hl 1 rfl) ?_
      refine lv_iload hx hb d_ByteRow_setBits_109 (lv_at hl 0 rfl) ?_
      refine lv_lushr (v := zushr (v &&& (p_mask w)) (nI (64 - (q % 64)))) hx hb d_ByteRow_setBits_111 rfl ?_
      refine lv_lor hx hb d_ByteRow_setBits_112 ?_
      refine z_last (w2 := [(h0, .inr (0, [.ref hw, .int (nI b.2)])), (hw, .inl (cJ, 2500, .inr (.inl (vp_updL (vp_updL b.1 (q / 64) (((b.1 (q / 64)) &&& ((zshl (p_mask w) (nI (q % 64))) ^^^ (-1))) ||| (zshl (v &&& (p_mask w)) (nI (q % 64))))) (q / 64 + 1) ((((vp_updL b.1 (q / 64) (((b.1 (q / 64)) &&& ((zshl (p_mask w) (nI (q % 64))) ^^^ (-1))) ||| (zshl (v &&& (p_mask w)) (nI (q % 64))))) (q / 64 + 1)) &&& ((zushr (p_mask w) (nI (64 - (q % 64)))) ^^^ (-1))) ||| (zushr (v &&& (p_mask w)) (nI (64 - (q % 64)))))))))]) hx hb hK hP hD hS 1 1 rfl rfl (by omega) (by decide) d_ByteRow_setBits_113 rfl (fun H locs hP hD hS => ?_)
      exact z_vret hx hb hr hlocks hS hP hD ⟨rfl, by unfold p_setBits; rw [if_pos c_6]; first | (rw [if_pos c_70] <;> rfl) | (rw [if_neg (Nat.not_le.mpr c_70)] <;> rfl)⟩ d_ByteRow_setBits_114
  · skip
    exact z_vret hx hb hr hlocks hS hP hD ⟨rfl, by unfold p_setBits; rw [if_neg (by rw [c_6]; decide)]⟩ d_ByteRow_setBits_9

set_option maxHeartbeats 4000000 in
set_option maxRecDepth 100000 in
theorem c_ByteRow_byteIn (l : Launch) (D : va_G) (cI cJ : ClassId) (h0 : Nat) (hw : Nat) (b : BB) (k : Nat) (hk : k < 20000) : Ct l D (zT cI cJ) y_ByteRow_byteIn b_ByteRow_byteIn 2 (some .int) 2 48 0 0 [.ref h0, .int (nI k)] [(h0, .inr (0, [.ref hw, .int (nI b.2)])), (hw, .inl (cJ, 2500, .inr (.inl b.1)))] (zEq (some (.int (nI (gB b.1 k)))) [(h0, .inr (0, [.ref hw, .int (nI b.2)])), (hw, .inl (cJ, 2500, .inr (.inl b.1)))]) := by
  refine Ct.ofW (by decide) (Nat.le_of_ble_eq_true rfl) ?_
  intro p e s m below meth c A ls C0 hP hD hS hl
  obtain ⟨hx, hb, hml, hown, hts, hK, hN, hr, hlocks, hA, hnm⟩ := C0
  have hl : lv_has ls 2 [(0, .ref h0), (1, .int (nI k))] := hl
  have hown : s.vm.findClass R_ByteRow = some m.cls := hown
  refine lv_aload_n hx hb d_ByteRow_byteIn_0 rfl (lv_at hl 0 rfl) ?_
  refine lv_iload_n hx hb d_ByteRow_byteIn_1 rfl (lv_at hl 1 rfl) ?_
  refine lv_bipush (v := nI 8) hx hb d_ByteRow_byteIn_2 (by decide +kernel) ?_
  refine lv_imul hx hb d_ByteRow_byteIn_4 (z_i (pk_mul k 8) ?_)
  refine lv_bipush (v := nI 8) hx hb d_ByteRow_byteIn_5 (by decide +kernel) ?_
  refine z_callEl (wr := []) (w2 := [(h0, .inr (0, [.ref hw, .int (nI b.2)])), (hw, .inl (cJ, 2500, .inr (.inl b.1)))]) (z_runV (rest := []) hx hb hml hown hts hK hN (c_ByteRow_bitsIn l D cI cJ h0 hw b (k * 8) 8 (by (try dsimp only); omega) (by (try dsimp only); omega)) kk_ByteRow_19 (zP.cut hP [0, 1] rfl) (hD.sub [0, 1] (by decide) rfl) 0 rfl rfl rfl hl.1 rfl (Nat.le_of_ble_eq_true rfl) d_ByteRow_byteIn_7 (by decide) (by decide)) hP hD hS hA [0, 1] [] [0, 1] rfl rfl (by decide) (by decide) (by decide) rfl (fun H locs hP hD hS => ?_)
  refine lv_l2i (v := (p_bitsIn b.1 (k * 8) 8).toInt32) hx hb d_ByteRow_byteIn_10 rfl ?_
  refine z_i (gB_int b.1 k) ?_
  exact z_iret hx hb hr hlocks hS hP hD ⟨rfl, rfl⟩ d_ByteRow_byteIn_11

set_option maxHeartbeats 4000000 in
set_option maxRecDepth 100000 in
theorem c_ByteRow_change (l : Launch) (D : va_G) (cI cJ : ClassId) (h0 : Nat) (hw : Nat) (b : BB) (k : Nat) (v : Int32) (hk : k < 20000) : Ct l D (zT cI cJ) y_ByteRow_change b_ByteRow_change 3 none 2 53 0 0 [.ref h0, .int (nI k), .int v] [(h0, .inr (0, [.ref hw, .int (nI b.2)])), (hw, .inl (cJ, 2500, .inr (.inl b.1)))] (zEq none [(h0, .inr (0, [.ref hw, .int (nI b.2)])), (hw, .inl (cJ, 2500, .inr (.inl (p_chg b.1 k v))))]) := by
  refine Ct.ofW (by decide) (Nat.le_of_ble_eq_true rfl) ?_
  intro p e s m below meth c A ls C0 hP hD hS hl
  obtain ⟨hx, hb, hml, hown, hts, hK, hN, hr, hlocks, hA, hnm⟩ := C0
  have hl : lv_has ls 3 [(0, .ref h0), (1, .int (nI k)), (2, .int v)] := hl
  have hown : s.vm.findClass R_ByteRow = some m.cls := hown
  refine lv_aload_n hx hb d_ByteRow_change_0 rfl (lv_at hl 0 rfl) ?_
  refine lv_iload_n hx hb d_ByteRow_change_1 rfl (lv_at hl 1 rfl) ?_
  refine lv_bipush (v := nI 8) hx hb d_ByteRow_change_2 (by decide +kernel) ?_
  refine lv_imul hx hb d_ByteRow_change_4 (z_i (pk_mul k 8) ?_)
  refine lv_bipush (v := nI 8) hx hb d_ByteRow_change_5 (by decide +kernel) ?_
  refine lv_iload_n hx hb d_ByteRow_change_7 rfl (lv_at hl 2 rfl) ?_
  refine lv_i2l (v := v.toInt64) hx hb d_ByteRow_change_8 rfl ?_
  refine z_callEv (wr := []) (w2 := [(h0, .inr (0, [.ref hw, .int (nI b.2)])), (hw, .inl (cJ, 2500, .inr (.inl (p_setBits b.1 (k * 8) 8 v.toInt64))))]) (z_runV (rest := []) hx hb hml hown hts hK hN (c_ByteRow_setBits l D cI cJ h0 hw b (k * 8) 8 v.toInt64 (by (try dsimp only); omega) (by (try dsimp only); omega)) kk_ByteRow_23 (zP.cut hP [0, 1] rfl) (hD.sub [0, 1] (by decide) rfl) 0 rfl rfl rfl hl.1 rfl (Nat.le_of_ble_eq_true rfl) d_ByteRow_change_9 (by decide) (by decide)) hP hD hS hA [0, 1] [] [0, 1] rfl rfl (by decide) (by decide) (by decide) rfl (fun H locs hP hD hS => ?_)
  exact z_vret hx hb hr hlocks hS hP hD ⟨rfl, rfl⟩ d_ByteRow_change_12

set_option maxHeartbeats 4000000 in
set_option maxRecDepth 100000 in
theorem c_ByteRow_add (l : Launch) (D : va_G) (cI cJ : ClassId) (h0 : Nat) (hw : Nat) (b : BB) (v : Int32) (hu : b.2 ≤ 20000) : Ct l D (zT cI cJ) y_ByteRow_add b_ByteRow_add 2 (some .boolean) 3 75 0 0 [.ref h0, .int v] [(h0, .inr (0, [.ref hw, .int (nI b.2)])), (hw, .inl (cJ, 2500, .inr (.inl b.1)))] (zEq (some (.int (zb (decide (b.2 < 20000))))) [(h0, .inr (0, [.ref hw, .int (nI ((p_add b v).2))])), (hw, .inl (cJ, 2500, .inr (.inl ((p_add b v).1))))]) := by
  refine Ct.ofW (by decide) (Nat.le_of_ble_eq_true rfl) ?_
  intro p e s m below meth c A ls C0 hP hD hS hl
  obtain ⟨hx, hb, hml, hown, hts, hK, hN, hr, hlocks, hA, hnm⟩ := C0
  have hl : lv_has ls 2 [(0, .ref h0), (1, .int v)] := hl
  have hown : s.vm.findClass R_ByteRow = some m.cls := hown
  refine lv_aload_n hx hb d_ByteRow_add_0 rfl (lv_at hl 0 rfl) ?_
  refine g_ByteRow_15 hx hb hts hown hK hP 0 rfl rfl d_ByteRow_add_1 ?_
  refine lv_sipush (v := nI 20000) hx hb d_ByteRow_add_4 (by decide +kernel) ?_
  refine zn_lt (a := b.2) (b := 20000) (by omega) (by omega) hx hb d_ByteRow_add_7 (tgt := 12) (by decide) (fun c_7 => ?_) (fun c_7 => ?_)
  · skip
    refine lv_aload_n hx hb d_ByteRow_add_12 rfl (lv_at hl 0 rfl) ?_
    refine lv_aload_n hx hb d_ByteRow_add_13 rfl (lv_at hl 0 rfl) ?_
    refine g_ByteRow_15 hx hb hts hown hK hP 0 rfl rfl d_ByteRow_add_14 ?_
    refine lv_iload_n hx hb d_ByteRow_add_17 rfl (lv_at hl 1 rfl) ?_
    refine z_callEv (wr := []) (w2 := [(h0, .inr (0, [.ref hw, .int (nI b.2)])), (hw, .inl (cJ, 2500, .inr (.inl (p_chg b.1 b.2 v))))]) (z_runV (rest := []) hx hb hml hown hts hK hN (c_ByteRow_change l D cI cJ h0 hw b b.2 v (by (try dsimp only); omega)) kk_ByteRow_27 (zP.cut hP [0, 1] rfl) (hD.sub [0, 1] (by decide) rfl) 0 rfl rfl rfl hl.1 rfl (Nat.le_of_ble_eq_true rfl) d_ByteRow_add_18 (by decide) (by decide)) hP hD hS hA [0, 1] [] [0, 1] rfl rfl (by decide) (by decide) (by decide) rfl (fun H locs hP hD hS => ?_)
    refine lv_aload_n hx hb d_ByteRow_add_21 rfl (lv_at hl 0 rfl) ?_
    refine lv_dup hx hb d_ByteRow_add_22 rfl ?_
    refine g_ByteRow_15 hx hb hts hown hK hP 0 rfl rfl d_ByteRow_add_23 ?_
    refine lv_iconst (v := nI 1) hx hb d_ByteRow_add_26 (by decide +kernel) ?_
    refine lv_iadd hx hb d_ByteRow_add_27 (z_i (nI_add b.2 1) ?_)
    refine p_ByteRow_15 (w2 := [(h0, .inr (0, [.ref hw, .int (nI (b.2 + 1))])), (hw, .inl (cJ, 2500, .inr (.inl (p_chg b.1 b.2 v))))]) hx hb hts hown hK hP hD hS 0 rfl (Nat.le_of_ble_eq_true rfl) rfl d_ByteRow_add_28 (fun H locs hP hD hS => ?_)
    refine lv_iconst (v := nI 1) hx hb d_ByteRow_add_31 (by decide +kernel) ?_
    exact z_bret hx hb hr hlocks (Or.inr rfl) hS hP hD ⟨zb_t (decide_eq_true c_7), by unfold p_add; rw [if_pos c_7] <;> rfl⟩ d_ByteRow_add_32
  · skip
    refine lv_iconst (v := nI 0) hx hb d_ByteRow_add_10 (by decide +kernel) ?_
    exact z_bret hx hb hr hlocks (Or.inl rfl) hS hP hD ⟨zb_f (decide_eq_false (by omega)), by unfold p_add; rw [if_neg (by omega)]⟩ d_ByteRow_add_11

set_option maxHeartbeats 4000000 in
set_option maxRecDepth 100000 in
theorem c_ByteRow_addVarint (l : Launch) (D : va_G) (cI cJ : ClassId) (h0 : Nat) (hw : Nat) (b : BB) (v : Int64) (hu : b.2 ≤ 20000) : Ct l D (zT cI cJ) y_ByteRow_addVarint b_ByteRow_addVarint 6 none 4 96 0 0 [.ref h0, .long v] [(h0, .inr (0, [.ref hw, .int (nI b.2)])), (hw, .inl (cJ, 2500, .inr (.inl b.1)))] (zEq none [(h0, .inr (0, [.ref hw, .int (nI ((p_av b v).2))])), (hw, .inl (cJ, 2500, .inr (.inl ((p_av b v).1))))]) := by
  refine Ct.ofW (by decide) (Nat.le_of_ble_eq_true rfl) ?_
  intro p e s m below meth c A ls C0 hP hD hS hl
  obtain ⟨hx, hb, hml, hown, hts, hK, hN, hr, hlocks, hA, hnm⟩ := C0
  have hl : lv_has ls 6 [(0, .ref h0), (1, .long v)] := hl
  have hown : s.vm.findClass R_ByteRow = some m.cls := hown
  refine lv_lload_n hx hb d_ByteRow_addVarint_0 rfl (lv_at hl 1 rfl) ?_
  refine lv_lstore_n (lv' := [(3, .long v), (0, .ref h0), (1, .long v)]) hx hb d_ByteRow_addVarint_1 rfl hl (by decide) rfl (fun ls hl => ?_)
  refine lv_iconst (v := nI 1) hx hb d_ByteRow_addVarint_2 (by decide +kernel) ?_
  refine lv_istore (lv' := [(5, .int (nI 1)), (3, .long v), (0, .ref h0), (1, .long v)]) hx hb d_ByteRow_addVarint_3 hl (by decide) rfl (fun ls hl => ?_)
  have hlp5 : ∀ (n : Nat) (i : Nat) (bc : BB) (r : Int64), (1 ≤ i ∧ i ≤ 10) → (bc.2 ≤ 20000) → (p_avl (10 - i) bc r = p_av b v) → 10 - i < n → ∀ (H : Heap) (locs : List Loc), va_P D classes [(h0, .inr (0, [.ref hw, .int (nI bc.2)])), (hw, .inl (cJ, 2500, .inr (.inl bc.1)))] H → va_D A [(h0, .inr (0, [.ref hw, .int (nI bc.2)])), (hw, .inl (cJ, 2500, .inr (.inl bc.1)))] → va_S A s.heap H locs → ∀ (ls : Array Slot), lv_has ls 6 [(0, .ref h0), (3, .long r), (5, .int (nI i))] → W p l e { frames := 4, cells := 0, slots := 0, locals := 96 } s m ([.ref h0, .long v] : List Value).toArray below meth c H locs 0 0 (MQ below (zQ D (zEq none [(h0, .inr (0, [.ref hw, .int (nI ((p_av b v).2))])), (hw, .inl (cJ, 2500, .inr (.inl ((p_av b v).1))))]) A) ([.ref h0, .long v] : List Value).toArray s 0 0 A) (F0 m 5 ls []) := by
    intro n
    induction n with
    | zero => intro i bc r h1 hu2 hbf hmu; exact absurd hmu (Nat.not_lt_zero _)
    | succ n ih =>
      intro i bc r h1 hu2 hbf hmu H locs hP hD hS ls hl
      have ih5 := ih
      refine lv_iload hx hb d_ByteRow_addVarint_5 (lv_at hl 2 rfl) ?_
      refine lv_bipush (v := nI 10) hx hb d_ByteRow_addVarint_7 (by decide +kernel) ?_
      refine zn_ge (a := i) (b := 10) (by omega) (by omega) hx hb d_ByteRow_addVarint_9 (tgt := 48) (by decide) (fun c_9 => ?_) (fun c_9 => ?_)
      · skip
        refine lv_aload_n hx hb d_ByteRow_addVarint_48 rfl (lv_at hl 0 rfl) ?_
        refine lv_lload_n hx hb d_ByteRow_addVarint_49 rfl (lv_at hl 1 rfl) ?_
        refine lv_l2i (v := r.toInt32) hx hb d_ByteRow_addVarint_50 rfl ?_
        refine z_callEi (wr := []) (w2 := [(h0, .inr (0, [.ref hw, .int (nI ((p_add bc r.toInt32).2))])), (hw, .inl (cJ, 2500, .inr (.inl ((p_add bc r.toInt32).1))))]) (z_runV (rest := []) hx hb hml hown hts hK hN (c_ByteRow_add l D cI cJ h0 hw bc r.toInt32 (by (try dsimp only); omega)) kk_ByteRow_35 (zP.cut hP [0, 1] rfl) (hD.sub [0, 1] (by decide) rfl) 0 rfl rfl rfl hl.1 rfl (Nat.le_of_ble_eq_true rfl) d_ByteRow_addVarint_51 (by decide) (by decide)) hP hD hS hA [0, 1] [] [0, 1] rfl rfl (by decide) (by decide) (by decide) rfl (fun H locs hP hD hS => ?_)
        refine lv_pop hx hb d_ByteRow_addVarint_54 rfl ?_
        exact z_vret hx hb hr hlocks hS hP hD ⟨rfl, by rw [← hbf]; first | (rw [show 10 - i = 0 by omega]; rfl) | (rw [show 10 - i = (10 - (i + 1)) + 1 by omega, p_avl, if_pos c_18])⟩ d_ByteRow_addVarint_55
      · skip
        refine lv_lload_n hx hb d_ByteRow_addVarint_12 rfl (lv_at hl 1 rfl) ?_
        refine lv_ldc2 (v := (-128)) hx hb hown (kc_ByteRow_31 hts) d_ByteRow_addVarint_13 ?_
        refine lv_land hx hb d_ByteRow_addVarint_16 ?_
        refine lv_lconst (v := 0) hx hb d_ByteRow_addVarint_17 (by decide +kernel) ?_
        refine zl_eq hx hb d_ByteRow_addVarint_18 d_ByteRow_addVarint_19 (tgt := 48) (by decide) (fun c_18 => ?_) (fun c_18 => ?_)
        · skip
          refine lv_aload_n hx hb d_ByteRow_addVarint_48 rfl (lv_at hl 0 rfl) ?_
          refine lv_lload_n hx hb d_ByteRow_addVarint_49 rfl (lv_at hl 1 rfl) ?_
          refine lv_l2i (v := r.toInt32) hx hb d_ByteRow_addVarint_50 rfl ?_
          refine z_callEi (wr := []) (w2 := [(h0, .inr (0, [.ref hw, .int (nI ((p_add bc r.toInt32).2))])), (hw, .inl (cJ, 2500, .inr (.inl ((p_add bc r.toInt32).1))))]) (z_runV (rest := []) hx hb hml hown hts hK hN (c_ByteRow_add l D cI cJ h0 hw bc r.toInt32 (by (try dsimp only); omega)) kk_ByteRow_35 (zP.cut hP [0, 1] rfl) (hD.sub [0, 1] (by decide) rfl) 0 rfl rfl rfl hl.1 rfl (Nat.le_of_ble_eq_true rfl) d_ByteRow_addVarint_51 (by decide) (by decide)) hP hD hS hA [0, 1] [] [0, 1] rfl rfl (by decide) (by decide) (by decide) rfl (fun H locs hP hD hS => ?_)
          refine lv_pop hx hb d_ByteRow_addVarint_54 rfl ?_
          exact z_vret hx hb hr hlocks hS hP hD ⟨rfl, by rw [← hbf]; first | (rw [show 10 - i = 0 by omega]; rfl) | (rw [show 10 - i = (10 - (i + 1)) + 1 by omega, p_avl, if_pos c_18])⟩ d_ByteRow_addVarint_55
        · skip
          refine lv_aload_n hx hb d_ByteRow_addVarint_22 rfl (lv_at hl 0 rfl) ?_
          refine lv_lload_n hx hb d_ByteRow_addVarint_23 rfl (lv_at hl 1 rfl) ?_
          refine lv_ldc2 (v := (127)) hx hb hown (kc_ByteRow_33 hts) d_ByteRow_addVarint_24 ?_
          refine lv_land hx hb d_ByteRow_addVarint_27 ?_
          refine lv_l2i (v := (r &&& (127)).toInt32) hx hb d_ByteRow_addVarint_28 rfl ?_
          refine lv_sipush (v := nI 128) hx hb d_ByteRow_addVarint_29 (by decide +kernel) ?_
          refine lv_ior hx hb d_ByteRow_addVarint_32 ?_
          refine z_callEi (wr := []) (w2 := [(h0, .inr (0, [.ref hw, .int (nI ((p_add bc (((r &&& (127)).toInt32) ||| (nI 128))).2))])), (hw, .inl (cJ, 2500, .inr (.inl ((p_add bc (((r &&& (127)).toInt32) ||| (nI 128))).1))))]) (z_runV (rest := []) hx hb hml hown hts hK hN (c_ByteRow_add l D cI cJ h0 hw bc (((r &&& (127)).toInt32) ||| (nI 128)) (by (try dsimp only); omega)) kk_ByteRow_35 (zP.cut hP [0, 1] rfl) (hD.sub [0, 1] (by decide) rfl) 0 rfl rfl rfl hl.1 rfl (Nat.le_of_ble_eq_true rfl) d_ByteRow_addVarint_33 (by decide) (by decide)) hP hD hS hA [0, 1] [] [0, 1] rfl rfl (by decide) (by decide) (by decide) rfl (fun H locs hP hD hS => ?_)
          refine lv_pop hx hb d_ByteRow_addVarint_36 rfl ?_
          refine lv_lload_n hx hb d_ByteRow_addVarint_37 rfl (lv_at hl 1 rfl) ?_
          refine lv_bipush (v := nI 7) hx hb d_ByteRow_addVarint_38 (by decide +kernel) ?_
          refine lv_lushr (v := zushr r (nI 7)) hx hb d_ByteRow_addVarint_40 rfl ?_
          refine lv_lstore_n (lv' := [(3, .long (zushr r (nI 7))), (0, .ref h0), (5, .int (nI i))]) hx hb d_ByteRow_addVarint_41 rfl hl (by decide) rfl (fun ls hl => ?_)
          refine lv_iinc (v := nI (i + 1)) (lv' := [(5, .int (nI (i + 1))), (3, .long (zushr r (nI 7))), (0, .ref h0)]) hx hb d_ByteRow_addVarint_42 hl (k := 2) rfl (zinc i 1) (by decide) rfl (fun ls hl => ?_)
          refine lv_goto (tgt := 5) hx hb d_ByteRow_addVarint_45 (by decide) ?_
          exact ih5 (i + 1) (p_add bc ((r &&& 127).toInt32 ||| nI 128)) (zushr r (nI 7)) (by omega) (p_add_le hu2) (by rw [show 10 - i = (10 - (i + 1)) + 1 by omega, p_avl, if_neg c_18] at hbf; exact hbf) (by omega) _ _ hP hD hS ls (lv_sub hl [2, 1, 0] rfl)
  exact hlp5 _ 1 b v (by omega) hu rfl (Nat.lt_succ_self _) _ _ hP hD hS ls (lv_sub hl [2, 1, 0] rfl)

set_option maxHeartbeats 4000000 in
set_option maxRecDepth 100000 in
theorem c_ByteRow_shorten (l : Launch) (D : va_G) (cI cJ : ClassId) (h0 : Nat) (hw : Nat) (us : Nat) (k : Nat)  : Ct l D (zT cI cJ) y_ByteRow_shorten b_ByteRow_shorten 2 none 0 0 0 0 [.ref h0, .int (nI k)] [(h0, .inr (0, [.ref hw, .int (nI us)]))] (zEq none [(h0, .inr (0, [.ref hw, .int (nI k)]))]) := by
  refine Ct.ofW (by decide) (Nat.le_of_ble_eq_true rfl) ?_
  intro p e s m below meth c A ls C0 hP hD hS hl
  obtain ⟨hx, hb, hml, hown, hts, hK, hN, hr, hlocks, hA, hnm⟩ := C0
  have hl : lv_has ls 2 [(0, .ref h0), (1, .int (nI k))] := hl
  have hown : s.vm.findClass R_ByteRow = some m.cls := hown
  refine lv_aload_n hx hb d_ByteRow_shorten_0 rfl (lv_at hl 0 rfl) ?_
  refine lv_iload_n hx hb d_ByteRow_shorten_1 rfl (lv_at hl 1 rfl) ?_
  refine p_ByteRow_15 (w2 := [(h0, .inr (0, [.ref hw, .int (nI k)]))]) hx hb hts hown hK hP hD hS 0 rfl (Nat.le_of_ble_eq_true rfl) rfl d_ByteRow_shorten_2 (fun H locs hP hD hS => ?_)
  exact z_vret hx hb hr hlocks hS hP hD ⟨rfl, rfl⟩ d_ByteRow_shorten_5

set_option maxHeartbeats 4000000 in
set_option maxRecDepth 100000 in
theorem c_ByteRow_init (l : Launch) (D : va_G) (cI cJ : ClassId) (h0 : Nat)  : Ct l D (zT cI cJ) y_ByteRow_init b_ByteRow_init 1 none 1 20 1 2500 [.ref h0] [(h0, .inr (0, [.null, .int 0]))] (fun r w => r = none ∧ ∃ (hw : Nat), w = [(h0, .inr (0, [.ref hw, .int (nI 0)])), (hw, .inl (cJ, 2500, .inr (.inl (fun _ => 0))))]) := by
  refine Ct.ofW (by decide) (Nat.le_of_ble_eq_true rfl) ?_
  intro p e s m below meth c A ls C0 hP hD hS hl
  obtain ⟨hx, hb, hml, hown, hts, hK, hN, hr, hlocks, hA, hnm⟩ := C0
  have hl : lv_has ls 1 [(0, .ref h0)] := hl
  have hown : s.vm.findClass R_ByteRow = some m.cls := hown
  refine lv_aload_n hx hb d_ByteRow_init_0 rfl (lv_at hl 0 rfl) ?_
  refine W.objInit hx hb hown (kw_ByteRow_3 hts) (ko_1 hts) (ko_2 hts) rfl (by rw [hml]; exact hl.1) rfl d_ByteRow_init_1 (by decide) (Nat.le_of_ble_eq_true rfl) ?_
  refine W.eq (g2 := F0 m 4 ls []) rfl ?_
  refine lv_aload_n hx hb d_ByteRow_init_4 rfl (lv_at hl 0 rfl) ?_
  refine lv_sipush (v := nI 2500) hx hb d_ByteRow_init_5 (by decide +kernel) ?_
  refine z_newa (N' := 2500) (a0 := (2500, .inr (.inl (fun _ => 0)))) hx hb (ka_long hts) (hK.2 1 _ rfl).2 hP hD hS hA (fun _ => rfl) (by decide) (by decide) (by decide) (by decide) (by decide) d_ByteRow_init_8 (fun qa1 H hP hD hS => ?_)
  have hP : va_P D classes [(h0, .inr (0, [.null, .int 0])), (qa1, .inl (cJ, 2500, .inr (.inl (fun _ => 0))))] H := hP
  have hD : va_D A [(h0, .inr (0, [.null, .int 0])), (qa1, .inl (cJ, 2500, .inr (.inl (fun _ => 0))))] := hD
  refine p_ByteRow_9 (w2 := [(h0, .inr (0, [.ref qa1, .int 0])), (qa1, .inl (cJ, 2500, .inr (.inl (fun _ => 0))))]) hx hb hts hown hnm hK hP hD hS 0 rfl (Nat.le_of_ble_eq_true rfl) rfl d_ByteRow_init_10 (fun H locs hP hD hS => ?_)
  refine lv_aload_n hx hb d_ByteRow_init_13 rfl (lv_at hl 0 rfl) ?_
  refine lv_iconst (v := nI 0) hx hb d_ByteRow_init_14 (by decide +kernel) ?_
  refine p_ByteRow_15 (w2 := [(h0, .inr (0, [.ref qa1, .int (nI 0)])), (qa1, .inl (cJ, 2500, .inr (.inl (fun _ => 0))))]) hx hb hts hown hK hP hD hS 0 rfl (Nat.le_of_ble_eq_true rfl) rfl d_ByteRow_init_15 (fun H locs hP hD hS => ?_)
  have hPD := zP.perm (w2 := [(h0, .inr (0, [.ref qa1, .int (nI 0)])), (qa1, .inl (cJ, 2500, .inr (.inl (fun _ => 0))))]) hP hD [0, 1] (by decide) rfl
  exact z_vret hx hb hr hlocks hS hPD.1 hPD.2 ⟨rfl, qa1, rfl⟩ d_ByteRow_init_18
end
section
/-! what the class's public methods answer, but write and read -/
def p_putC (rc : Nat) : Nat := if rc < 2000 then rc + 1 else rc
def p_putR (rq : Nat → Int64) (rc : Nat) (v : Int64) : Nat → Int64 := if rc < 2000 then vp_updL rq rc v else rq
def p_get (rq : Nat → Int64) (rc : Nat) (k : Int32) : Int64 := if p_has rc k = true then rq k.toNatClampNeg else 0
def p_byteAt (b : BB) (k : Int32) : Int32 := if p_has b.2 k = true then nI (gB b.1 k.toNatClampNeg) else (-1)
def p_setByte (b : BB) (k v : Int32) : Nat → Int64 := if p_has b.2 k = true then p_chg b.1 k.toNatClampNeg v else b.1
def p_cutB (us : Nat) (k : Int32) : Bool := decide (¬ k < 0 ∧ k ≤ nI us)
def p_cut (us : Nat) (k : Int32) : Nat := if p_cutB us k = true then k.toNatClampNeg else us
def p_least (bc : Nat) (le : Nat → Int64) (k : Int32) : Int64 := if p_has bc k = true then le k.toNatClampNeg else 0
def p_part (bc : Nat) (f : Nat → Int32) (k p : Int32) : Int32 := if p_hp bc k p = true then f (k.toNatClampNeg * 4 + p.toNatClampNeg) else (-1)
theorem p_cutB_of {us : Nat} {k : Int32} (hu : us < 2 ^ 31) (h : p_cutB us k = true) : ∃ j : Nat, j ≤ us ∧ k = nI j := by
  have h1 := of_decide_eq_true h
  obtain ⟨j, hj, rfl⟩ := nI_of h1.1
  exact ⟨j, (nI_leI hj hu).mp h1.2, rfl⟩
set_option maxHeartbeats 4000000 in
set_option maxRecDepth 100000 in
theorem c_Layout_hasBlock (l : Launch) (D : va_G) (cI cJ : ClassId) (h0 : Nat) (ql : Nat) (qi : Nat) (qs : Nat) (bc : Nat) (k : Int32) (hbc : bc < 1000000) : Ct l D (zT cI cJ) y_Layout_hasBlock b_Layout_hasBlock 2 (some .boolean) 0 0 0 0 [.ref h0, .int k] [(h0, .inr (1, [.int (nI bc), .ref ql, .ref qi, .ref qs]))] (zEq (some (.int (zb (p_has bc k)))) [(h0, .inr (1, [.int (nI bc), .ref ql, .ref qi, .ref qs]))]) := by
  refine Ct.ofW (by decide) (Nat.le_of_ble_eq_true rfl) ?_
  intro p e s m below meth c A ls C0 hP hD hS hl
  obtain ⟨hx, hb, hml, hown, hts, hK, hN, hr, hlocks, hA, hnm⟩ := C0
  have hl : lv_has ls 2 [(0, .ref h0), (1, .int k)] := hl
  have hown : s.vm.findClass R_Layout = some m.cls := hown
  refine lv_iload_n hx hb d_Layout_hasBlock_0 rfl (lv_at hl 1 rfl) ?_
  refine lv_if_lt (tgt := 16) hx hb d_Layout_hasBlock_1 (by decide) (fun c_1 => ?_) (fun c_1 => ?_)
  · skip
    refine lv_iconst (v := nI 0) hx hb d_Layout_hasBlock_16 (by decide +kernel) ?_
    exact z_bret hx hb hr hlocks (Or.inl rfl) hS hP hD ⟨zb_f (decide_eq_false (fun z => by first | exact z.1 c_1 | exact z.2 c_9 | (rw [c_1] at z; exact absurd z.1 (by decide)) | (rw [c_9] at z; exact absurd z.1 (by decide)))), rfl⟩ d_Layout_hasBlock_17
  · skip
    refine lv_iload_n hx hb d_Layout_hasBlock_4 rfl (lv_at hl 1 rfl) ?_
    refine lv_aload_n hx hb d_Layout_hasBlock_5 rfl (lv_at hl 0 rfl) ?_
    refine g_Layout_9 hx hb hts hown hK hP 0 rfl rfl d_Layout_hasBlock_6 ?_
    refine lv_icmp_ge (tgt := 16) hx hb d_Layout_hasBlock_9 (by decide) (fun c_9 => ?_) (fun c_9 => ?_)
    · skip
      refine lv_iconst (v := nI 0) hx hb d_Layout_hasBlock_16 (by decide +kernel) ?_
      exact z_bret hx hb hr hlocks (Or.inl rfl) hS hP hD ⟨zb_f (decide_eq_false (fun z => by first | exact z.1 c_1 | exact z.2 c_9 | (rw [c_1] at z; exact absurd z.1 (by decide)) | (rw [c_9] at z; exact absurd z.1 (by decide)))), rfl⟩ d_Layout_hasBlock_17
    · skip
      refine lv_iconst (v := nI 1) hx hb d_Layout_hasBlock_12 (by decide +kernel) ?_
      refine lv_goto (tgt := 17) hx hb d_Layout_hasBlock_13 (by decide) ?_
      exact z_bret hx hb hr hlocks (Or.inr rfl) hS hP hD ⟨zb_t (decide_eq_true ⟨c_1, c_9⟩), rfl⟩ d_Layout_hasBlock_17

set_option maxHeartbeats 4000000 in
set_option maxRecDepth 100000 in
theorem c_Layout_hasPart (l : Launch) (D : va_G) (cI cJ : ClassId) (h0 : Nat) (ql : Nat) (qi : Nat) (qs : Nat) (bc : Nat) (k : Int32) (pp : Int32) (hbc : bc < 1000000) : Ct l D (zT cI cJ) y_Layout_hasPart b_Layout_hasPart 3 (some .boolean) 1 21 0 0 [.ref h0, .int k, .int pp] [(h0, .inr (1, [.int (nI bc), .ref ql, .ref qi, .ref qs]))] (zEq (some (.int (zb (p_hp bc k pp)))) [(h0, .inr (1, [.int (nI bc), .ref ql, .ref qi, .ref qs]))]) := by
  refine Ct.ofW (by decide) (Nat.le_of_ble_eq_true rfl) ?_
  intro p e s m below meth c A ls C0 hP hD hS hl
  obtain ⟨hx, hb, hml, hown, hts, hK, hN, hr, hlocks, hA, hnm⟩ := C0
  have hl : lv_has ls 3 [(0, .ref h0), (1, .int k), (2, .int pp)] := hl
  have hown : s.vm.findClass R_Layout = some m.cls := hown
  refine lv_aload_n hx hb d_Layout_hasPart_0 rfl (lv_at hl 0 rfl) ?_
  refine lv_iload_n hx hb d_Layout_hasPart_1 rfl (lv_at hl 1 rfl) ?_
  refine z_callEi (wr := []) (w2 := [(h0, .inr (1, [.int (nI bc), .ref ql, .ref qi, .ref qs]))]) (z_runV (rest := []) hx hb hml hown hts hK hN (c_Layout_hasBlock l D cI cJ h0 ql qi qs bc k (by (try dsimp only); omega)) kk_Layout_26 (zP.cut hP [0] rfl) (hD.sub [0] (by decide) rfl) 0 rfl rfl rfl hl.1 rfl (Nat.le_of_ble_eq_true rfl) d_Layout_hasPart_2 (by decide) (by decide)) hP hD hS hA [0] [] [0] rfl rfl (by decide) (by decide) (by decide) rfl (fun H locs hP hD hS => ?_)
  refine zb_eq (tgt := 21) hx hb d_Layout_hasPart_5 (by decide) (fun c_5 => ?_) (fun c_5 => ?_)
  · skip
    refine lv_iconst (v := nI 0) hx hb d_Layout_hasPart_21 (by decide +kernel) ?_
    exact z_bret hx hb hr hlocks (Or.inl rfl) hS hP hD ⟨zb_f (decide_eq_false (fun z => by first | exact z.1 c_5 | exact z.2.1 c_9 | exact z.2.2 c_14 | (rw [c_5] at z; exact absurd z.1 (by decide)) | (rw [c_9] at z; exact absurd z.1 (by decide)) | (rw [c_14] at z; exact absurd z.1 (by decide)))), rfl⟩ d_Layout_hasPart_22
  · skip
    refine lv_iload_n hx hb d_Layout_hasPart_8 rfl (lv_at hl 2 rfl) ?_
    refine lv_if_lt (tgt := 21) hx hb d_Layout_hasPart_9 (by decide) (fun c_9 => ?_) (fun c_9 => ?_)
    · skip
      refine lv_iconst (v := nI 0) hx hb d_Layout_hasPart_21 (by decide +kernel) ?_
      exact z_bret hx hb hr hlocks (Or.inl rfl) hS hP hD ⟨zb_f (decide_eq_false (fun z => by first | exact z.1 c_5 | exact z.2.1 c_9 | exact z.2.2 c_14 | (rw [c_5] at z; exact absurd z.1 (by decide)) | (rw [c_9] at z; exact absurd z.1 (by decide)) | (rw [c_14] at z; exact absurd z.1 (by decide)))), rfl⟩ d_Layout_hasPart_22
    · skip
      refine lv_iload_n hx hb d_Layout_hasPart_12 rfl (lv_at hl 2 rfl) ?_
      refine lv_iconst (v := nI 4) hx hb d_Layout_hasPart_13 (by decide +kernel) ?_
      refine lv_icmp_ge (tgt := 21) hx hb d_Layout_hasPart_14 (by decide) (fun c_14 => ?_) (fun c_14 => ?_)
      · skip
        refine lv_iconst (v := nI 0) hx hb d_Layout_hasPart_21 (by decide +kernel) ?_
        exact z_bret hx hb hr hlocks (Or.inl rfl) hS hP hD ⟨zb_f (decide_eq_false (fun z => by first | exact z.1 c_5 | exact z.2.1 c_9 | exact z.2.2 c_14 | (rw [c_5] at z; exact absurd z.1 (by decide)) | (rw [c_9] at z; exact absurd z.1 (by decide)) | (rw [c_14] at z; exact absurd z.1 (by decide)))), rfl⟩ d_Layout_hasPart_22
      · skip
        refine lv_iconst (v := nI 1) hx hb d_Layout_hasPart_17 (by decide +kernel) ?_
        refine lv_goto (tgt := 22) hx hb d_Layout_hasPart_18 (by decide) ?_
        exact z_bret hx hb hr hlocks (Or.inr rfl) hS hP hD ⟨zb_t (decide_eq_true ⟨c_5, c_9, c_14⟩), rfl⟩ d_Layout_hasPart_22

set_option maxHeartbeats 4000000 in
set_option maxRecDepth 100000 in
theorem c_DeltaRows_blocksFor (l : Launch) (D : va_G) (cI cJ : ClassId) (t : Nat) (ht : t ≤ 2000) : Ct l D (zT cI cJ) y_DeltaRows_blocksFor b_DeltaRows_blocksFor 1 (some .int) 0 0 0 0 [.int (nI t)] [] (zEq (some (.int (nI (p_bf t)))) []) := by
  refine Ct.ofW (by decide) (Nat.le_of_ble_eq_true rfl) ?_
  intro p e s m below meth c A ls C0 hP hD hS hl
  obtain ⟨hx, hb, hml, hown, hts, hK, hN, hr, hlocks, hA, hnm⟩ := C0
  have hl : lv_has ls 1 [(0, .int (nI t))] := hl
  have hown : s.vm.findClass R_DeltaRows = some m.cls := hown
  refine lv_iload_n hx hb d_DeltaRows_blocksFor_0 rfl (lv_at hl 0 rfl) ?_
  refine lv_iconst (v := nI 1) hx hb d_DeltaRows_blocksFor_1 (by decide +kernel) ?_
  refine zn_le (a := t) (b := 1) (by omega) (by omega) hx hb d_DeltaRows_blocksFor_2 (tgt := 19) (by decide) (fun c_2 => ?_) (fun c_2 => ?_)
  · skip
    refine lv_iconst (v := nI 0) hx hb d_DeltaRows_blocksFor_19 (by decide +kernel) ?_
    exact z_iret hx hb hr hlocks hS hP hD ⟨by unfold p_bf; first | rw [if_pos c_2] | rw [if_neg (Nat.not_lt.mpr c_2)], rfl⟩ d_DeltaRows_blocksFor_20
  · skip
    refine lv_iload_n hx hb d_DeltaRows_blocksFor_5 rfl (lv_at hl 0 rfl) ?_
    refine lv_iconst (v := nI 1) hx hb d_DeltaRows_blocksFor_6 (by decide +kernel) ?_
    refine lv_isub hx hb d_DeltaRows_blocksFor_7 (z_i (pk_sub (a := t) (b := 1) (by omega)) ?_)
    refine lv_bipush (v := nI 64) hx hb d_DeltaRows_blocksFor_8 (by decide +kernel) ?_
    refine lv_iadd hx hb d_DeltaRows_blocksFor_10 (z_i (nI_add (t - 1) 64) ?_)
    refine lv_iconst (v := nI 1) hx hb d_DeltaRows_blocksFor_11 (by decide +kernel) ?_
    refine lv_isub hx hb d_DeltaRows_blocksFor_12 (z_i (pk_sub (a := t - 1 + 64) (b := 1) (by omega)) ?_)
    refine lv_bipush (v := nI 64) hx hb d_DeltaRows_blocksFor_13 (by decide +kernel) ?_
    refine lv_idiv hx hb d_DeltaRows_blocksFor_15 (nI_ne0 (by omega) (by omega)) (z_i (pk_div (a := (t - 1 + 64) - 1) (d := 64) (by omega) (by omega) (by omega)) ?_)
    refine lv_goto (tgt := 20) hx hb d_DeltaRows_blocksFor_16 (by decide) ?_
    exact z_iret hx hb hr hlocks hS hP hD ⟨by unfold p_bf; first | rw [if_pos c_2] | rw [if_neg (Nat.not_lt.mpr c_2)], rfl⟩ d_DeltaRows_blocksFor_20

set_option maxHeartbeats 4000000 in
set_option maxRecDepth 100000 in
theorem c_DeltaRows_partEdge (l : Launch) (D : va_G) (cI cJ : ClassId) (k : Nat) (pp : Nat) (t : Nat) (hk : k ≤ 1000) (hp : pp ≤ 1000) (ht : t ≤ 2000) : Ct l D (zT cI cJ) y_DeltaRows_partEdge b_DeltaRows_partEdge 3 (some .int) 1 23 0 0 [.int (nI k), .int (nI pp), .int (nI t)] [] (zEq (some (.int (nI (p_pe k pp t)))) []) := by
  refine Ct.ofW (by decide) (Nat.le_of_ble_eq_true rfl) ?_
  intro p e s m below meth c A ls C0 hP hD hS hl
  obtain ⟨hx, hb, hml, hown, hts, hK, hN, hr, hlocks, hA, hnm⟩ := C0
  have hl : lv_has ls 3 [(0, .int (nI k)), (1, .int (nI pp)), (2, .int (nI t))] := hl
  have hown : s.vm.findClass R_DeltaRows = some m.cls := hown
  refine lv_iconst (v := nI 1) hx hb d_DeltaRows_partEdge_0 (by decide +kernel) ?_
  refine lv_iload_n hx hb d_DeltaRows_partEdge_1 rfl (lv_at hl 0 rfl) ?_
  refine lv_bipush (v := nI 64) hx hb d_DeltaRows_partEdge_2 (by decide +kernel) ?_
  refine lv_imul hx hb d_DeltaRows_partEdge_4 (z_i (pk_mul k 64) ?_)
  refine lv_iadd hx hb d_DeltaRows_partEdge_5 (z_i (nI_add 1 (k * 64)) ?_)
  refine lv_iload_n hx hb d_DeltaRows_partEdge_6 rfl (lv_at hl 1 rfl) ?_
  refine lv_bipush (v := nI 16) hx hb d_DeltaRows_partEdge_7 (by decide +kernel) ?_
  refine lv_imul hx hb d_DeltaRows_partEdge_9 (z_i (pk_mul pp 16) ?_)
  refine lv_iadd hx hb d_DeltaRows_partEdge_10 (z_i (nI_add (1 + k * 64) (pp * 16)) ?_)
  refine lv_iload_n hx hb d_DeltaRows_partEdge_11 rfl (lv_at hl 2 rfl) ?_
  refine va_mmin hx hb (by rw [hml]; exact hl.1.symm) hown (kw_DeltaRows_160 hts) (km_minI_1 hts) (km_0 hts) (km_minI_2 hts) (by decide) (Nat.le_of_ble_eq_true rfl) (by decide) (by decide) d_DeltaRows_partEdge_12 ?_
  refine z_i (zmin (a := 1 + k * 64 + pp * 16) (b := t) (by omega) (by omega)) ?_
  exact z_iret hx hb hr hlocks hS hP hD ⟨rfl, rfl⟩ d_DeltaRows_partEdge_15

set_option maxHeartbeats 4000000 in
set_option maxRecDepth 100000 in
theorem c_DeltaRows_partBytes (l : Launch) (D : va_G) (cI cJ : ClassId) (w : Nat) (hw1 : w ≤ 1000) : Ct l D (zT cI cJ) y_DeltaRows_partBytes b_DeltaRows_partBytes 1 (some .int) 0 0 0 0 [.int (nI w)] [] (zEq (some (.int (nI (w * 16 / 8)))) []) := by
  refine Ct.ofW (by decide) (Nat.le_of_ble_eq_true rfl) ?_
  intro p e s m below meth c A ls C0 hP hD hS hl
  obtain ⟨hx, hb, hml, hown, hts, hK, hN, hr, hlocks, hA, hnm⟩ := C0
  have hl : lv_has ls 1 [(0, .int (nI w))] := hl
  have hown : s.vm.findClass R_DeltaRows = some m.cls := hown
  refine lv_iload_n hx hb d_DeltaRows_partBytes_0 rfl (lv_at hl 0 rfl) ?_
  refine lv_bipush (v := nI 16) hx hb d_DeltaRows_partBytes_1 (by decide +kernel) ?_
  refine lv_imul hx hb d_DeltaRows_partBytes_3 (z_i (pk_mul w 16) ?_)
  refine lv_bipush (v := nI 8) hx hb d_DeltaRows_partBytes_4 (by decide +kernel) ?_
  refine lv_idiv hx hb d_DeltaRows_partBytes_6 (nI_ne0 (by omega) (by omega)) (z_i (pk_div (a := w * 16) (d := 8) (by omega) (by omega) (by omega)) ?_)
  exact z_iret hx hb hr hlocks hS hP hD ⟨rfl, rfl⟩ d_DeltaRows_partBytes_7

set_option maxHeartbeats 4000000 in
set_option maxRecDepth 100000 in
theorem c_DeltaRows_zigzag (l : Launch) (D : va_G) (cI cJ : ClassId) (v : Int64)  : Ct l D (zT cI cJ) y_DeltaRows_zigzag b_DeltaRows_zigzag 2 (some .long) 0 0 0 0 [.long v] [] (zEq (some (.long (p_zig v))) []) := by
  refine Ct.ofW (by decide) (Nat.le_of_ble_eq_true rfl) ?_
  intro p e s m below meth c A ls C0 hP hD hS hl
  obtain ⟨hx, hb, hml, hown, hts, hK, hN, hr, hlocks, hA, hnm⟩ := C0
  have hl : lv_has ls 2 [(0, .long v)] := hl
  have hown : s.vm.findClass R_DeltaRows = some m.cls := hown
  refine lv_lload_n hx hb d_DeltaRows_zigzag_0 rfl (lv_at hl 0 rfl) ?_
  refine lv_iconst (v := nI 1) hx hb d_DeltaRows_zigzag_1 (by decide +kernel) ?_
  refine lv_lshl (v := zshl v (nI 1)) hx hb d_DeltaRows_zigzag_2 rfl ?_
  refine lv_lload_n hx hb d_DeltaRows_zigzag_3 rfl (lv_at hl 0 rfl) ?_
  refine lv_bipush (v := nI 63) hx hb d_DeltaRows_zigzag_4 (by decide +kernel) ?_
  refine lv_lshr (v := zshr v (nI 63)) hx hb d_DeltaRows_zigzag_6 rfl ?_
  refine lv_lxor hx hb d_DeltaRows_zigzag_7 ?_
  exact z_lret hx hb hr hlocks hS hP hD ⟨rfl, rfl⟩ d_DeltaRows_zigzag_8

set_option maxHeartbeats 4000000 in
set_option maxRecDepth 100000 in
theorem c_DeltaRows_unzigzag (l : Launch) (D : va_G) (cI cJ : ClassId) (v : Int64)  : Ct l D (zT cI cJ) y_DeltaRows_unzigzag b_DeltaRows_unzigzag 2 (some .long) 0 0 0 0 [.long v] [] (zEq (some (.long (p_unzig v))) []) := by
  refine Ct.ofW (by decide) (Nat.le_of_ble_eq_true rfl) ?_
  intro p e s m below meth c A ls C0 hP hD hS hl
  obtain ⟨hx, hb, hml, hown, hts, hK, hN, hr, hlocks, hA, hnm⟩ := C0
  have hl : lv_has ls 2 [(0, .long v)] := hl
  have hown : s.vm.findClass R_DeltaRows = some m.cls := hown
  refine lv_lload_n hx hb d_DeltaRows_unzigzag_0 rfl (lv_at hl 0 rfl) ?_
  refine lv_iconst (v := nI 1) hx hb d_DeltaRows_unzigzag_1 (by decide +kernel) ?_
  refine lv_lushr (v := zushr v (nI 1)) hx hb d_DeltaRows_unzigzag_2 rfl ?_
  refine lv_lload_n hx hb d_DeltaRows_unzigzag_3 rfl (lv_at hl 0 rfl) ?_
  refine lv_lconst (v := 1) hx hb d_DeltaRows_unzigzag_4 (by decide +kernel) ?_
  refine lv_land hx hb d_DeltaRows_unzigzag_5 ?_
  refine lv_lneg hx hb d_DeltaRows_unzigzag_6 ?_
  refine lv_lxor hx hb d_DeltaRows_unzigzag_7 ?_
  exact z_lret hx hb hr hlocks hS hP hD ⟨rfl, rfl⟩ d_DeltaRows_unzigzag_8

set_option maxHeartbeats 4000000 in
set_option maxRecDepth 100000 in
theorem c_DeltaRows_put (l : Launch) (D : va_G) (cI cJ : ClassId) (o : Nat) (ro : Nat) (bo : Nat) (so : Nat) (la : Nat) (lb : Nat) (rc : Nat) (rq : Nat → Int64) (v : Int64) (hrc : rc ≤ 2000) : Ct l D (zT cI cJ) y_DeltaRows_put b_DeltaRows_put 3 (some .boolean) 0 0 0 0 [.ref o, .long v] [(o, .inr (3, [.ref ro, .int (nI rc), .ref bo, .ref so, .ref la, .ref lb])), (ro, .inl (cJ, 2000, .inr (.inl rq)))] (zEq (some (.int (zb (decide (rc < 2000))))) [(o, .inr (3, [.ref ro, .int (nI (p_putC rc)), .ref bo, .ref so, .ref la, .ref lb])), (ro, .inl (cJ, 2000, .inr (.inl (p_putR rq rc v))))]) := by
  refine Ct.ofW (by decide) (Nat.le_of_ble_eq_true rfl) ?_
  intro p e s m below meth c A ls C0 hP hD hS hl
  obtain ⟨hx, hb, hml, hown, hts, hK, hN, hr, hlocks, hA, hnm⟩ := C0
  have hl : lv_has ls 3 [(0, .ref o), (1, .long v)] := hl
  have hown : s.vm.findClass R_DeltaRows = some m.cls := hown
  refine lv_aload_n hx hb d_DeltaRows_put_0 rfl (lv_at hl 0 rfl) ?_
  refine g_DeltaRows_13 hx hb hts hown hK hP 0 rfl rfl d_DeltaRows_put_1 ?_
  refine lv_sipush (v := nI 2000) hx hb d_DeltaRows_put_4 (by decide +kernel) ?_
  refine zn_lt (a := rc) (b := 2000) (by omega) (by omega) hx hb d_DeltaRows_put_7 (tgt := 12) (by decide) (fun c_7 => ?_) (fun c_7 => ?_)
  · skip
    refine lv_aload_n hx hb d_DeltaRows_put_12 rfl (lv_at hl 0 rfl) ?_
    refine g_DeltaRows_9 hx hb hts hown hK hP 0 rfl rfl d_DeltaRows_put_13 ?_
    refine lv_aload_n hx hb d_DeltaRows_put_16 rfl (lv_at hl 0 rfl) ?_
    refine g_DeltaRows_13 hx hb hts hown hK hP 0 rfl rfl d_DeltaRows_put_17 ?_
    refine lv_lload_n hx hb d_DeltaRows_put_20 rfl (lv_at hl 1 rfl) ?_
    refine z_last (w2 := [(o, .inr (3, [.ref ro, .int (nI rc), .ref bo, .ref so, .ref la, .ref lb])), (ro, .inl (cJ, 2000, .inr (.inl (vp_updL rq rc v))))]) hx hb hK hP hD hS 1 1 rfl rfl (by omega) (by decide) d_DeltaRows_put_21 rfl (fun H locs hP hD hS => ?_)
    refine lv_aload_n hx hb d_DeltaRows_put_22 rfl (lv_at hl 0 rfl) ?_
    refine lv_dup hx hb d_DeltaRows_put_23 rfl ?_
    refine g_DeltaRows_13 hx hb hts hown hK hP 0 rfl rfl d_DeltaRows_put_24 ?_
    refine lv_iconst (v := nI 1) hx hb d_DeltaRows_put_27 (by decide +kernel) ?_
    refine lv_iadd hx hb d_DeltaRows_put_28 (z_i (nI_add rc 1) ?_)
    refine p_DeltaRows_13 (w2 := [(o, .inr (3, [.ref ro, .int (nI (rc + 1)), .ref bo, .ref so, .ref la, .ref lb])), (ro, .inl (cJ, 2000, .inr (.inl (vp_updL rq rc v))))]) hx hb hts hown hK hP hD hS 0 rfl (Nat.le_of_ble_eq_true rfl) rfl d_DeltaRows_put_29 (fun H locs hP hD hS => ?_)
    refine lv_iconst (v := nI 1) hx hb d_DeltaRows_put_32 (by decide +kernel) ?_
    exact z_bret hx hb hr hlocks (Or.inr rfl) hS hP hD ⟨zb_t (decide_eq_true c_7), by unfold p_putC p_putR; rw [if_pos c_7, if_pos c_7]⟩ d_DeltaRows_put_33
  · skip
    refine lv_iconst (v := nI 0) hx hb d_DeltaRows_put_10 (by decide +kernel) ?_
    exact z_bret hx hb hr hlocks (Or.inl rfl) hS hP hD ⟨zb_f (decide_eq_false (by omega)), by unfold p_putC p_putR; rw [if_neg (by omega), if_neg (by omega)]⟩ d_DeltaRows_put_11

set_option maxHeartbeats 4000000 in
set_option maxRecDepth 100000 in
theorem c_DeltaRows_clear (l : Launch) (D : va_G) (cI cJ : ClassId) (o : Nat) (ro : Nat) (bo : Nat) (so : Nat) (la : Nat) (lb : Nat) (rc : Nat)  : Ct l D (zT cI cJ) y_DeltaRows_clear b_DeltaRows_clear 1 none 0 0 0 0 [.ref o] [(o, .inr (3, [.ref ro, .int (nI rc), .ref bo, .ref so, .ref la, .ref lb]))] (zEq none [(o, .inr (3, [.ref ro, .int (nI 0), .ref bo, .ref so, .ref la, .ref lb]))]) := by
  refine Ct.ofW (by decide) (Nat.le_of_ble_eq_true rfl) ?_
  intro p e s m below meth c A ls C0 hP hD hS hl
  obtain ⟨hx, hb, hml, hown, hts, hK, hN, hr, hlocks, hA, hnm⟩ := C0
  have hl : lv_has ls 1 [(0, .ref o)] := hl
  have hown : s.vm.findClass R_DeltaRows = some m.cls := hown
  refine lv_aload_n hx hb d_DeltaRows_clear_0 rfl (lv_at hl 0 rfl) ?_
  refine lv_iconst (v := nI 0) hx hb d_DeltaRows_clear_1 (by decide +kernel) ?_
  refine p_DeltaRows_13 (w2 := [(o, .inr (3, [.ref ro, .int (nI 0), .ref bo, .ref so, .ref la, .ref lb]))]) hx hb hts hown hK hP hD hS 0 rfl (Nat.le_of_ble_eq_true rfl) rfl d_DeltaRows_clear_2 (fun H locs hP hD hS => ?_)
  exact z_vret hx hb hr hlocks hS hP hD ⟨rfl, rfl⟩ d_DeltaRows_clear_5

set_option maxHeartbeats 4000000 in
set_option maxRecDepth 100000 in
theorem c_DeltaRows_count (l : Launch) (D : va_G) (cI cJ : ClassId) (o : Nat) (ro : Nat) (bo : Nat) (so : Nat) (la : Nat) (lb : Nat) (rc : Nat)  : Ct l D (zT cI cJ) y_DeltaRows_count b_DeltaRows_count 1 (some .int) 0 0 0 0 [.ref o] [(o, .inr (3, [.ref ro, .int (nI rc), .ref bo, .ref so, .ref la, .ref lb]))] (zEq (some (.int (nI rc))) [(o, .inr (3, [.ref ro, .int (nI rc), .ref bo, .ref so, .ref la, .ref lb]))]) := by
  refine Ct.ofW (by decide) (Nat.le_of_ble_eq_true rfl) ?_
  intro p e s m below meth c A ls C0 hP hD hS hl
  obtain ⟨hx, hb, hml, hown, hts, hK, hN, hr, hlocks, hA, hnm⟩ := C0
  have hl : lv_has ls 1 [(0, .ref o)] := hl
  have hown : s.vm.findClass R_DeltaRows = some m.cls := hown
  refine lv_aload_n hx hb d_DeltaRows_count_0 rfl (lv_at hl 0 rfl) ?_
  refine g_DeltaRows_13 hx hb hts hown hK hP 0 rfl rfl d_DeltaRows_count_1 ?_
  exact z_iret hx hb hr hlocks hS hP hD ⟨rfl, rfl⟩ d_DeltaRows_count_4

set_option maxHeartbeats 4000000 in
set_option maxRecDepth 100000 in
theorem c_DeltaRows_get (l : Launch) (D : va_G) (cI cJ : ClassId) (o : Nat) (ro : Nat) (bo : Nat) (so : Nat) (la : Nat) (lb : Nat) (rc : Nat) (rq : Nat → Int64) (k : Int32) (hrc : rc ≤ 2000) : Ct l D (zT cI cJ) y_DeltaRows_get b_DeltaRows_get 2 (some .long) 0 0 0 0 [.ref o, .int k] [(o, .inr (3, [.ref ro, .int (nI rc), .ref bo, .ref so, .ref la, .ref lb])), (ro, .inl (cJ, 2000, .inr (.inl rq)))] (zEq (some (.long (p_get rq rc k))) [(o, .inr (3, [.ref ro, .int (nI rc), .ref bo, .ref so, .ref la, .ref lb])), (ro, .inl (cJ, 2000, .inr (.inl rq)))]) := by
  refine Ct.ofW (by decide) (Nat.le_of_ble_eq_true rfl) ?_
  intro p e s m below meth c A ls C0 hP hD hS hl
  obtain ⟨hx, hb, hml, hown, hts, hK, hN, hr, hlocks, hA, hnm⟩ := C0
  have hl : lv_has ls 2 [(0, .ref o), (1, .int k)] := hl
  have hown : s.vm.findClass R_DeltaRows = some m.cls := hown
  refine lv_iload_n hx hb d_DeltaRows_get_0 rfl (lv_at hl 1 rfl) ?_
  refine lv_if_lt (tgt := 21) hx hb d_DeltaRows_get_1 (by decide) (fun c_1 => ?_) (fun c_1 => ?_)
  · skip
    refine lv_lconst (v := 0) hx hb d_DeltaRows_get_21 (by decide +kernel) ?_
    exact z_lret hx hb hr hlocks hS hP hD ⟨by unfold p_get; first | rw [if_pos (show p_has rc (nI j) = true from decide_eq_true ⟨c_1, c_9⟩), nI_clamp (by omega)] | rw [if_neg (fun z => by first | exact (of_decide_eq_true z).1 c_1 | exact (of_decide_eq_true z).2 c_9)], rfl⟩ d_DeltaRows_get_22
  · skip
    refine lv_iload_n hx hb d_DeltaRows_get_4 rfl (lv_at hl 1 rfl) ?_
    refine lv_aload_n hx hb d_DeltaRows_get_5 rfl (lv_at hl 0 rfl) ?_
    refine g_DeltaRows_13 hx hb hts hown hK hP 0 rfl rfl d_DeltaRows_get_6 ?_
    refine lv_icmp_ge (tgt := 21) hx hb d_DeltaRows_get_9 (by decide) (fun c_9 => ?_) (fun c_9 => ?_)
    · skip
      refine lv_lconst (v := 0) hx hb d_DeltaRows_get_21 (by decide +kernel) ?_
      exact z_lret hx hb hr hlocks hS hP hD ⟨by unfold p_get; first | rw [if_pos (show p_has rc (nI j) = true from decide_eq_true ⟨c_1, c_9⟩), nI_clamp (by omega)] | rw [if_neg (fun z => by first | exact (of_decide_eq_true z).1 c_1 | exact (of_decide_eq_true z).2 c_9)], rfl⟩ d_DeltaRows_get_22
    · skip
      obtain ⟨j, hj, rfl⟩ := p_has_of (us := rc) (by omega) (decide_eq_true ⟨c_1, c_9⟩)
      refine lv_aload_n hx hb d_DeltaRows_get_12 rfl (lv_at hl 0 rfl) ?_
      refine g_DeltaRows_9 hx hb hts hown hK hP 0 rfl rfl d_DeltaRows_get_13 ?_
      refine lv_iload_n hx hb d_DeltaRows_get_16 rfl (lv_at hl 1 rfl) ?_
      refine z_lald hx hb hK hP 1 1 rfl rfl (by omega) (by decide) d_DeltaRows_get_17 ?_
      refine lv_goto (tgt := 22) hx hb d_DeltaRows_get_18 (by decide) ?_
      exact z_lret hx hb hr hlocks hS hP hD ⟨by unfold p_get; first | rw [if_pos (show p_has rc (nI j) = true from decide_eq_true ⟨c_1, c_9⟩), nI_clamp (by omega)] | rw [if_neg (fun z => by first | exact (of_decide_eq_true z).1 c_1 | exact (of_decide_eq_true z).2 c_9)], rfl⟩ d_DeltaRows_get_22

set_option maxHeartbeats 4000000 in
set_option maxRecDepth 100000 in
theorem c_DeltaRows_place (l : Launch) (D : va_G) (cI cJ : ClassId) (o : Nat) (ro : Nat) (bo : Nat) (so : Nat) (la : Nat) (lb : Nat) (rc : Nat) (at_ : Nat) (fa : Nat) (pl : Int32) (to : Nat) (fi : Int64)  : Ct l D (zT cI cJ) y_DeltaRows_place b_DeltaRows_place 1 (some .int) 0 0 0 0 [.ref o] [(o, .inr (3, [.ref ro, .int (nI rc), .ref bo, .ref so, .ref la, .ref lb])), (so, .inr (2, [.ref bo, .int (nI at_), .int (nI fa), .int pl, .int (nI to), .long fi]))] (zEq (some (.int pl)) [(o, .inr (3, [.ref ro, .int (nI rc), .ref bo, .ref so, .ref la, .ref lb])), (so, .inr (2, [.ref bo, .int (nI at_), .int (nI fa), .int pl, .int (nI to), .long fi]))]) := by
  refine Ct.ofW (by decide) (Nat.le_of_ble_eq_true rfl) ?_
  intro p e s m below meth c A ls C0 hP hD hS hl
  obtain ⟨hx, hb, hml, hown, hts, hK, hN, hr, hlocks, hA, hnm⟩ := C0
  have hl : lv_has ls 1 [(0, .ref o)] := hl
  have hown : s.vm.findClass R_DeltaRows = some m.cls := hown
  refine lv_aload_n hx hb d_DeltaRows_place_0 rfl (lv_at hl 0 rfl) ?_
  refine g_DeltaRows_29 hx hb hts hown hK hP 0 rfl rfl d_DeltaRows_place_1 ?_
  refine g_DeltaRows_78 hx hb hts hown hK hP 1 rfl rfl d_DeltaRows_place_4 ?_
  exact z_iret hx hb hr hlocks hS hP hD ⟨rfl, rfl⟩ d_DeltaRows_place_7

set_option maxHeartbeats 4000000 in
set_option maxRecDepth 100000 in
theorem c_DeltaRows_size (l : Launch) (D : va_G) (cI cJ : ClassId) (o : Nat) (ro : Nat) (bo : Nat) (so : Nat) (la : Nat) (lb : Nat) (rc : Nat) (hw : Nat) (us : Nat)  : Ct l D (zT cI cJ) y_DeltaRows_size b_DeltaRows_size 1 (some .int) 0 0 0 0 [.ref o] [(o, .inr (3, [.ref ro, .int (nI rc), .ref bo, .ref so, .ref la, .ref lb])), (bo, .inr (0, [.ref hw, .int (nI us)]))] (zEq (some (.int (nI us))) [(o, .inr (3, [.ref ro, .int (nI rc), .ref bo, .ref so, .ref la, .ref lb])), (bo, .inr (0, [.ref hw, .int (nI us)]))]) := by
  refine Ct.ofW (by decide) (Nat.le_of_ble_eq_true rfl) ?_
  intro p e s m below meth c A ls C0 hP hD hS hl
  obtain ⟨hx, hb, hml, hown, hts, hK, hN, hr, hlocks, hA, hnm⟩ := C0
  have hl : lv_has ls 1 [(0, .ref o)] := hl
  have hown : s.vm.findClass R_DeltaRows = some m.cls := hown
  refine lv_aload_n hx hb d_DeltaRows_size_0 rfl (lv_at hl 0 rfl) ?_
  refine g_DeltaRows_20 hx hb hts hown hK hP 0 rfl rfl d_DeltaRows_size_1 ?_
  refine g_DeltaRows_65 hx hb hts hown hK hP 1 rfl rfl d_DeltaRows_size_4 ?_
  exact z_iret hx hb hr hlocks hS hP hD ⟨rfl, rfl⟩ d_DeltaRows_size_7

set_option maxHeartbeats 4000000 in
set_option maxRecDepth 100000 in
theorem c_DeltaRows_byteAt (l : Launch) (D : va_G) (cI cJ : ClassId) (o : Nat) (ro : Nat) (bo : Nat) (so : Nat) (la : Nat) (lb : Nat) (rc : Nat) (hw : Nat) (b : BB) (k : Int32) (hu : b.2 ≤ 20000) : Ct l D (zT cI cJ) y_DeltaRows_byteAt b_DeltaRows_byteAt 2 (some .int) 3 69 0 0 [.ref o, .int k] [(o, .inr (3, [.ref ro, .int (nI rc), .ref bo, .ref so, .ref la, .ref lb])), (bo, .inr (0, [.ref hw, .int (nI b.2)])), (hw, .inl (cJ, 2500, .inr (.inl b.1)))] (zEq (some (.int (p_byteAt b k))) [(o, .inr (3, [.ref ro, .int (nI rc), .ref bo, .ref so, .ref la, .ref lb])), (bo, .inr (0, [.ref hw, .int (nI b.2)])), (hw, .inl (cJ, 2500, .inr (.inl b.1)))]) := by
  refine Ct.ofW (by decide) (Nat.le_of_ble_eq_true rfl) ?_
  intro p e s m below meth c A ls C0 hP hD hS hl
  obtain ⟨hx, hb, hml, hown, hts, hK, hN, hr, hlocks, hA, hnm⟩ := C0
  have hl : lv_has ls 2 [(0, .ref o), (1, .int k)] := hl
  have hown : s.vm.findClass R_DeltaRows = some m.cls := hown
  refine lv_aload_n hx hb d_DeltaRows_byteAt_0 rfl (lv_at hl 0 rfl) ?_
  refine g_DeltaRows_20 hx hb hts hown hK hP 0 rfl rfl d_DeltaRows_byteAt_1 ?_
  refine lv_iload_n hx hb d_DeltaRows_byteAt_4 rfl (lv_at hl 1 rfl) ?_
  refine z_callEi (wr := [(o, .inr (3, [.ref ro, .int (nI rc), .ref bo, .ref so, .ref la, .ref lb])), (hw, .inl (cJ, 2500, .inr (.inl b.1)))]) (w2 := [(o, .inr (3, [.ref ro, .int (nI rc), .ref bo, .ref so, .ref la, .ref lb])), (bo, .inr (0, [.ref hw, .int (nI b.2)])), (hw, .inl (cJ, 2500, .inr (.inl b.1)))]) (z_runV (rest := []) hx hb hml hown hts hK hN (c_ByteRow_has l D cI cJ bo hw b.2 k (by (try dsimp only); omega)) kk_DeltaRows_81 (zP.cut hP [1] rfl) (hD.sub [1] (by decide) rfl) 0 rfl rfl rfl hl.1 rfl (Nat.le_of_ble_eq_true rfl) d_DeltaRows_byteAt_5 (by decide) (by decide)) hP hD hS hA [1] [0, 2] [0, 2, 1] rfl rfl (by decide) (by decide) (by decide) rfl (fun H locs hP hD hS => ?_)
  refine zb_eq (tgt := 22) hx hb d_DeltaRows_byteAt_8 (by decide) (fun c_8 => ?_) (fun c_8 => ?_)
  · skip
    refine lv_iconst (v := (-1)) hx hb d_DeltaRows_byteAt_22 (by decide +kernel) ?_
    exact z_iret hx hb hr hlocks hS hP hD ⟨by unfold p_byteAt; first | rw [if_pos c_8, nI_clamp (by omega)] | rw [if_neg (by rw [c_8]; decide)], rfl⟩ d_DeltaRows_byteAt_23
  · skip
    obtain ⟨j, hj, rfl⟩ := p_has_of (us := b.2) (by omega) c_8
    refine lv_aload_n hx hb d_DeltaRows_byteAt_11 rfl (lv_at hl 0 rfl) ?_
    refine g_DeltaRows_20 hx hb hts hown hK hP 0 rfl rfl d_DeltaRows_byteAt_12 ?_
    refine lv_iload_n hx hb d_DeltaRows_byteAt_15 rfl (lv_at hl 1 rfl) ?_
    refine z_callEi (wr := [(o, .inr (3, [.ref ro, .int (nI rc), .ref bo, .ref so, .ref la, .ref lb]))]) (w2 := [(o, .inr (3, [.ref ro, .int (nI rc), .ref bo, .ref so, .ref la, .ref lb])), (bo, .inr (0, [.ref hw, .int (nI b.2)])), (hw, .inl (cJ, 2500, .inr (.inl b.1)))]) (z_runV (rest := []) hx hb hml hown hts hK hN (c_ByteRow_byteIn l D cI cJ bo hw b j (by (try dsimp only); omega)) kk_DeltaRows_85 (zP.cut hP [1, 2] rfl) (hD.sub [1, 2] (by decide) rfl) 0 rfl rfl rfl hl.1 rfl (Nat.le_of_ble_eq_true rfl) d_DeltaRows_byteAt_16 (by decide) (by decide)) hP hD hS hA [1, 2] [0] [0, 1, 2] rfl rfl (by decide) (by decide) (by decide) rfl (fun H locs hP hD hS => ?_)
    refine lv_goto (tgt := 23) hx hb d_DeltaRows_byteAt_19 (by decide) ?_
    exact z_iret hx hb hr hlocks hS hP hD ⟨by unfold p_byteAt; first | rw [if_pos c_8, nI_clamp (by omega)] | rw [if_neg (by rw [c_8]; decide)], rfl⟩ d_DeltaRows_byteAt_23

set_option maxHeartbeats 4000000 in
set_option maxRecDepth 100000 in
theorem c_DeltaRows_setByte (l : Launch) (D : va_G) (cI cJ : ClassId) (o : Nat) (ro : Nat) (bo : Nat) (so : Nat) (la : Nat) (lb : Nat) (rc : Nat) (hw : Nat) (b : BB) (k : Int32) (v : Int32) (hu : b.2 ≤ 20000) : Ct l D (zT cI cJ) y_DeltaRows_setByte b_DeltaRows_setByte 3 (some .boolean) 3 75 0 0 [.ref o, .int k, .int v] [(o, .inr (3, [.ref ro, .int (nI rc), .ref bo, .ref so, .ref la, .ref lb])), (bo, .inr (0, [.ref hw, .int (nI b.2)])), (hw, .inl (cJ, 2500, .inr (.inl b.1)))] (zEq (some (.int (zb (p_has b.2 k)))) [(o, .inr (3, [.ref ro, .int (nI rc), .ref bo, .ref so, .ref la, .ref lb])), (bo, .inr (0, [.ref hw, .int (nI b.2)])), (hw, .inl (cJ, 2500, .inr (.inl (p_setByte b k v))))]) := by
  refine Ct.ofW (by decide) (Nat.le_of_ble_eq_true rfl) ?_
  intro p e s m below meth c A ls C0 hP hD hS hl
  obtain ⟨hx, hb, hml, hown, hts, hK, hN, hr, hlocks, hA, hnm⟩ := C0
  have hl : lv_has ls 3 [(0, .ref o), (1, .int k), (2, .int v)] := hl
  have hown : s.vm.findClass R_DeltaRows = some m.cls := hown
  refine lv_aload_n hx hb d_DeltaRows_setByte_0 rfl (lv_at hl 0 rfl) ?_
  refine g_DeltaRows_20 hx hb hts hown hK hP 0 rfl rfl d_DeltaRows_setByte_1 ?_
  refine lv_iload_n hx hb d_DeltaRows_setByte_4 rfl (lv_at hl 1 rfl) ?_
  refine z_callEi (wr := [(o, .inr (3, [.ref ro, .int (nI rc), .ref bo, .ref so, .ref la, .ref lb])), (hw, .inl (cJ, 2500, .inr (.inl b.1)))]) (w2 := [(o, .inr (3, [.ref ro, .int (nI rc), .ref bo, .ref so, .ref la, .ref lb])), (bo, .inr (0, [.ref hw, .int (nI b.2)])), (hw, .inl (cJ, 2500, .inr (.inl b.1)))]) (z_runV (rest := []) hx hb hml hown hts hK hN (c_ByteRow_has l D cI cJ bo hw b.2 k (by (try dsimp only); omega)) kk_DeltaRows_81 (zP.cut hP [1] rfl) (hD.sub [1] (by decide) rfl) 0 rfl rfl rfl hl.1 rfl (Nat.le_of_ble_eq_true rfl) d_DeltaRows_setByte_5 (by decide) (by decide)) hP hD hS hA [1] [0, 2] [0, 2, 1] rfl rfl (by decide) (by decide) (by decide) rfl (fun H locs hP hD hS => ?_)
  refine zb_ne (tgt := 13) hx hb d_DeltaRows_setByte_8 (by decide) (fun c_8 => ?_) (fun c_8 => ?_)
  · skip
    obtain ⟨j, hj, rfl⟩ := p_has_of (us := b.2) (by omega) c_8
    refine lv_aload_n hx hb d_DeltaRows_setByte_13 rfl (lv_at hl 0 rfl) ?_
    refine g_DeltaRows_20 hx hb hts hown hK hP 0 rfl rfl d_DeltaRows_setByte_14 ?_
    refine lv_iload_n hx hb d_DeltaRows_setByte_17 rfl (lv_at hl 1 rfl) ?_
    refine lv_iload_n hx hb d_DeltaRows_setByte_18 rfl (lv_at hl 2 rfl) ?_
    refine z_callEv (wr := [(o, .inr (3, [.ref ro, .int (nI rc), .ref bo, .ref so, .ref la, .ref lb]))]) (w2 := [(o, .inr (3, [.ref ro, .int (nI rc), .ref bo, .ref so, .ref la, .ref lb])), (bo, .inr (0, [.ref hw, .int (nI b.2)])), (hw, .inl (cJ, 2500, .inr (.inl (p_chg b.1 j v))))]) (z_runV (rest := []) hx hb hml hown hts hK hN (c_ByteRow_change l D cI cJ bo hw b j v (by (try dsimp only); omega)) kk_DeltaRows_88 (zP.cut hP [1, 2] rfl) (hD.sub [1, 2] (by decide) rfl) 0 rfl rfl rfl hl.1 rfl (Nat.le_of_ble_eq_true rfl) d_DeltaRows_setByte_19 (by decide) (by decide)) hP hD hS hA [1, 2] [0] [0, 1, 2] rfl rfl (by decide) (by decide) (by decide) rfl (fun H locs hP hD hS => ?_)
    refine lv_iconst (v := nI 1) hx hb d_DeltaRows_setByte_22 (by decide +kernel) ?_
    exact z_bret hx hb hr hlocks (Or.inr rfl) hS hP hD ⟨zb_t c_8, by unfold p_setByte; rw [if_pos c_8, nI_clamp (by omega)]⟩ d_DeltaRows_setByte_23
  · skip
    refine lv_iconst (v := nI 0) hx hb d_DeltaRows_setByte_11 (by decide +kernel) ?_
    exact z_bret hx hb hr hlocks (Or.inl rfl) hS hP hD ⟨zb_f c_8, by unfold p_setByte; rw [if_neg (by rw [c_8]; decide)]⟩ d_DeltaRows_setByte_12

set_option maxHeartbeats 4000000 in
set_option maxRecDepth 100000 in
theorem c_DeltaRows_append (l : Launch) (D : va_G) (cI cJ : ClassId) (o : Nat) (ro : Nat) (bo : Nat) (so : Nat) (la : Nat) (lb : Nat) (rc : Nat) (hw : Nat) (b : BB) (v : Int32) (hu : b.2 ≤ 20000) : Ct l D (zT cI cJ) y_DeltaRows_append b_DeltaRows_append 2 (some .boolean) 4 96 0 0 [.ref o, .int v] [(o, .inr (3, [.ref ro, .int (nI rc), .ref bo, .ref so, .ref la, .ref lb])), (bo, .inr (0, [.ref hw, .int (nI b.2)])), (hw, .inl (cJ, 2500, .inr (.inl b.1)))] (zEq (some (.int (zb (decide (b.2 < 20000))))) [(o, .inr (3, [.ref ro, .int (nI rc), .ref bo, .ref so, .ref la, .ref lb])), (bo, .inr (0, [.ref hw, .int (nI ((p_add b v).2))])), (hw, .inl (cJ, 2500, .inr (.inl ((p_add b v).1))))]) := by
  refine Ct.ofW (by decide) (Nat.le_of_ble_eq_true rfl) ?_
  intro p e s m below meth c A ls C0 hP hD hS hl
  obtain ⟨hx, hb, hml, hown, hts, hK, hN, hr, hlocks, hA, hnm⟩ := C0
  have hl : lv_has ls 2 [(0, .ref o), (1, .int v)] := hl
  have hown : s.vm.findClass R_DeltaRows = some m.cls := hown
  refine lv_aload_n hx hb d_DeltaRows_append_0 rfl (lv_at hl 0 rfl) ?_
  refine g_DeltaRows_20 hx hb hts hown hK hP 0 rfl rfl d_DeltaRows_append_1 ?_
  refine lv_iload_n hx hb d_DeltaRows_append_4 rfl (lv_at hl 1 rfl) ?_
  refine z_callEi (wr := [(o, .inr (3, [.ref ro, .int (nI rc), .ref bo, .ref so, .ref la, .ref lb]))]) (w2 := [(o, .inr (3, [.ref ro, .int (nI rc), .ref bo, .ref so, .ref la, .ref lb])), (bo, .inr (0, [.ref hw, .int (nI ((p_add b v).2))])), (hw, .inl (cJ, 2500, .inr (.inl ((p_add b v).1))))]) (z_runV (rest := []) hx hb hml hown hts hK hN (c_ByteRow_add l D cI cJ bo hw b v (by (try dsimp only); omega)) kk_DeltaRows_92 (zP.cut hP [1, 2] rfl) (hD.sub [1, 2] (by decide) rfl) 0 rfl rfl rfl hl.1 rfl (Nat.le_of_ble_eq_true rfl) d_DeltaRows_append_5 (by decide) (by decide)) hP hD hS hA [1, 2] [0] [0, 1, 2] rfl rfl (by decide) (by decide) (by decide) rfl (fun H locs hP hD hS => ?_)
  exact z_bret hx hb hr hlocks (zb_01 _) hS hP hD ⟨rfl, rfl⟩ d_DeltaRows_append_8

set_option maxHeartbeats 4000000 in
set_option maxRecDepth 100000 in
theorem c_DeltaRows_cut (l : Launch) (D : va_G) (cI cJ : ClassId) (o : Nat) (ro : Nat) (bo : Nat) (so : Nat) (la : Nat) (lb : Nat) (rc : Nat) (hw : Nat) (us : Nat) (k : Int32) (hu : us ≤ 20000) : Ct l D (zT cI cJ) y_DeltaRows_cut b_DeltaRows_cut 2 (some .boolean) 1 21 0 0 [.ref o, .int k] [(o, .inr (3, [.ref ro, .int (nI rc), .ref bo, .ref so, .ref la, .ref lb])), (bo, .inr (0, [.ref hw, .int (nI us)]))] (zEq (some (.int (zb (p_cutB us k)))) [(o, .inr (3, [.ref ro, .int (nI rc), .ref bo, .ref so, .ref la, .ref lb])), (bo, .inr (0, [.ref hw, .int (nI (p_cut us k))]))]) := by
  refine Ct.ofW (by decide) (Nat.le_of_ble_eq_true rfl) ?_
  intro p e s m below meth c A ls C0 hP hD hS hl
  obtain ⟨hx, hb, hml, hown, hts, hK, hN, hr, hlocks, hA, hnm⟩ := C0
  have hl : lv_has ls 2 [(0, .ref o), (1, .int k)] := hl
  have hown : s.vm.findClass R_DeltaRows = some m.cls := hown
  refine lv_iload_n hx hb d_DeltaRows_cut_0 rfl (lv_at hl 1 rfl) ?_
  refine lv_if_lt (tgt := 15) hx hb d_DeltaRows_cut_1 (by decide) (fun c_1 => ?_) (fun c_1 => ?_)
  · skip
    refine lv_iconst (v := nI 0) hx hb d_DeltaRows_cut_15 (by decide +kernel) ?_
    exact z_bret hx hb hr hlocks (Or.inl rfl) hS hP hD ⟨zb_f (decide_eq_false (fun z => by first | exact z.1 c_1 | exact c_12 z.2)), by unfold p_cut; rw [if_neg (fun z => by first | exact (of_decide_eq_true z).1 c_1 | exact c_12 (of_decide_eq_true z).2)]⟩ d_DeltaRows_cut_16
  · skip
    refine lv_iload_n hx hb d_DeltaRows_cut_4 rfl (lv_at hl 1 rfl) ?_
    refine lv_aload_n hx hb d_DeltaRows_cut_5 rfl (lv_at hl 0 rfl) ?_
    refine g_DeltaRows_20 hx hb hts hown hK hP 0 rfl rfl d_DeltaRows_cut_6 ?_
    refine g_DeltaRows_65 hx hb hts hown hK hP 1 rfl rfl d_DeltaRows_cut_9 ?_
    refine lv_icmp_le (tgt := 17) hx hb d_DeltaRows_cut_12 (by decide) (fun c_12 => ?_) (fun c_12 => ?_)
    · skip
      obtain ⟨j, hj, rfl⟩ := p_cutB_of (us := us) (by omega) (decide_eq_true ⟨c_1, c_12⟩)
      refine lv_aload_n hx hb d_DeltaRows_cut_17 rfl (lv_at hl 0 rfl) ?_
      refine g_DeltaRows_20 hx hb hts hown hK hP 0 rfl rfl d_DeltaRows_cut_18 ?_
      refine lv_iload_n hx hb d_DeltaRows_cut_21 rfl (lv_at hl 1 rfl) ?_
      refine z_callEv (wr := [(o, .inr (3, [.ref ro, .int (nI rc), .ref bo, .ref so, .ref la, .ref lb]))]) (w2 := [(o, .inr (3, [.ref ro, .int (nI rc), .ref bo, .ref so, .ref la, .ref lb])), (bo, .inr (0, [.ref hw, .int (nI j)]))]) (z_runV (rest := []) hx hb hml hown hts hK hN (c_ByteRow_shorten l D cI cJ bo hw us j ) kk_DeltaRows_43 (zP.cut hP [1] rfl) (hD.sub [1] (by decide) rfl) 0 rfl rfl rfl hl.1 rfl (Nat.le_of_ble_eq_true rfl) d_DeltaRows_cut_22 (by decide) (by decide)) hP hD hS hA [1] [0] [0, 1] rfl rfl (by decide) (by decide) (by decide) rfl (fun H locs hP hD hS => ?_)
      refine lv_iconst (v := nI 1) hx hb d_DeltaRows_cut_25 (by decide +kernel) ?_
      exact z_bret hx hb hr hlocks (Or.inr rfl) hS hP hD ⟨zb_t (decide_eq_true ⟨c_1, c_12⟩), by unfold p_cut; rw [if_pos (show p_cutB us (nI j) = true from decide_eq_true ⟨c_1, c_12⟩), nI_clamp (by omega)]⟩ d_DeltaRows_cut_26
    · skip
      refine lv_iconst (v := nI 0) hx hb d_DeltaRows_cut_15 (by decide +kernel) ?_
      exact z_bret hx hb hr hlocks (Or.inl rfl) hS hP hD ⟨zb_f (decide_eq_false (fun z => by first | exact z.1 c_1 | exact c_12 z.2)), by unfold p_cut; rw [if_neg (fun z => by first | exact (of_decide_eq_true z).1 c_1 | exact c_12 (of_decide_eq_true z).2)]⟩ d_DeltaRows_cut_16

set_option maxHeartbeats 4000000 in
set_option maxRecDepth 100000 in
theorem c_DeltaRows_blocks (l : Launch) (D : va_G) (cI cJ : ClassId) (o : Nat) (ro : Nat) (bo : Nat) (so : Nat) (la : Nat) (lb : Nat) (rc : Nat) (hl1 : Nat) (hi1 : Nat) (hs1 : Nat) (bc : Nat)  : Ct l D (zT cI cJ) y_DeltaRows_blocks b_DeltaRows_blocks 1 (some .int) 0 0 0 0 [.ref o] [(o, .inr (3, [.ref ro, .int (nI rc), .ref bo, .ref so, .ref la, .ref lb])), (la, .inr (1, [.int (nI bc), .ref hl1, .ref hi1, .ref hs1]))] (zEq (some (.int (nI bc))) [(o, .inr (3, [.ref ro, .int (nI rc), .ref bo, .ref so, .ref la, .ref lb])), (la, .inr (1, [.int (nI bc), .ref hl1, .ref hi1, .ref hs1]))]) := by
  refine Ct.ofW (by decide) (Nat.le_of_ble_eq_true rfl) ?_
  intro p e s m below meth c A ls C0 hP hD hS hl
  obtain ⟨hx, hb, hml, hown, hts, hK, hN, hr, hlocks, hA, hnm⟩ := C0
  have hl : lv_has ls 1 [(0, .ref o)] := hl
  have hown : s.vm.findClass R_DeltaRows = some m.cls := hown
  refine lv_aload_n hx hb d_DeltaRows_blocks_0 rfl (lv_at hl 0 rfl) ?_
  refine g_DeltaRows_36 hx hb hts hown hK hP 0 rfl rfl d_DeltaRows_blocks_1 ?_
  refine g_DeltaRows_59 hx hb hts hown hK hP 1 rfl rfl d_DeltaRows_blocks_4 ?_
  exact z_iret hx hb hr hlocks hS hP hD ⟨rfl, rfl⟩ d_DeltaRows_blocks_7

set_option maxHeartbeats 4000000 in
set_option maxRecDepth 100000 in
theorem c_DeltaRows_least (l : Launch) (D : va_G) (cI cJ : ClassId) (o : Nat) (ro : Nat) (bo : Nat) (so : Nat) (la : Nat) (lb : Nat) (rc : Nat) (hl1 : Nat) (hi1 : Nat) (hs1 : Nat) (bc : Nat) (le : Nat → Int64) (k : Int32) (hbc : bc ≤ 32) : Ct l D (zT cI cJ) y_DeltaRows_least b_DeltaRows_least 2 (some .long) 1 21 0 0 [.ref o, .int k] [(o, .inr (3, [.ref ro, .int (nI rc), .ref bo, .ref so, .ref la, .ref lb])), (la, .inr (1, [.int (nI bc), .ref hl1, .ref hi1, .ref hs1])), (hl1, .inl (cJ, 32, .inr (.inl le)))] (zEq (some (.long (p_least bc le k))) [(o, .inr (3, [.ref ro, .int (nI rc), .ref bo, .ref so, .ref la, .ref lb])), (la, .inr (1, [.int (nI bc), .ref hl1, .ref hi1, .ref hs1])), (hl1, .inl (cJ, 32, .inr (.inl le)))]) := by
  refine Ct.ofW (by decide) (Nat.le_of_ble_eq_true rfl) ?_
  intro p e s m below meth c A ls C0 hP hD hS hl
  obtain ⟨hx, hb, hml, hown, hts, hK, hN, hr, hlocks, hA, hnm⟩ := C0
  have hl : lv_has ls 2 [(0, .ref o), (1, .int k)] := hl
  have hown : s.vm.findClass R_DeltaRows = some m.cls := hown
  refine lv_aload_n hx hb d_DeltaRows_least_0 rfl (lv_at hl 0 rfl) ?_
  refine g_DeltaRows_36 hx hb hts hown hK hP 0 rfl rfl d_DeltaRows_least_1 ?_
  refine lv_iload_n hx hb d_DeltaRows_least_4 rfl (lv_at hl 1 rfl) ?_
  refine z_callEi (wr := [(o, .inr (3, [.ref ro, .int (nI rc), .ref bo, .ref so, .ref la, .ref lb])), (hl1, .inl (cJ, 32, .inr (.inl le)))]) (w2 := [(o, .inr (3, [.ref ro, .int (nI rc), .ref bo, .ref so, .ref la, .ref lb])), (la, .inr (1, [.int (nI bc), .ref hl1, .ref hi1, .ref hs1])), (hl1, .inl (cJ, 32, .inr (.inl le)))]) (z_runV (rest := []) hx hb hml hown hts hK hN (c_Layout_hasBlock l D cI cJ la hl1 hi1 hs1 bc k (by (try dsimp only); omega)) kk_DeltaRows_95 (zP.cut hP [1] rfl) (hD.sub [1] (by decide) rfl) 0 rfl rfl rfl hl.1 rfl (Nat.le_of_ble_eq_true rfl) d_DeltaRows_least_5 (by decide) (by decide)) hP hD hS hA [1] [0, 2] [0, 2, 1] rfl rfl (by decide) (by decide) (by decide) rfl (fun H locs hP hD hS => ?_)
  refine zb_eq (tgt := 23) hx hb d_DeltaRows_least_8 (by decide) (fun c_8 => ?_) (fun c_8 => ?_)
  · skip
    refine lv_lconst (v := 0) hx hb d_DeltaRows_least_23 (by decide +kernel) ?_
    exact z_lret hx hb hr hlocks hS hP hD ⟨by unfold p_least; first | rw [if_pos c_8, nI_clamp (by omega)] | rw [if_neg (by rw [c_8]; decide)], rfl⟩ d_DeltaRows_least_24
  · skip
    obtain ⟨j, hj, rfl⟩ := p_has_of (us := bc) (by omega) c_8
    refine lv_aload_n hx hb d_DeltaRows_least_11 rfl (lv_at hl 0 rfl) ?_
    refine g_DeltaRows_36 hx hb hts hown hK hP 0 rfl rfl d_DeltaRows_least_12 ?_
    refine g_DeltaRows_98 hx hb hts hown hK hP 1 rfl rfl d_DeltaRows_least_15 ?_
    refine lv_iload_n hx hb d_DeltaRows_least_18 rfl (lv_at hl 1 rfl) ?_
    refine z_lald hx hb hK hP 2 1 rfl rfl (by omega) (by decide) d_DeltaRows_least_19 ?_
    refine lv_goto (tgt := 24) hx hb d_DeltaRows_least_20 (by decide) ?_
    exact z_lret hx hb hr hlocks hS hP hD ⟨by unfold p_least; first | rw [if_pos c_8, nI_clamp (by omega)] | rw [if_neg (by rw [c_8]; decide)], rfl⟩ d_DeltaRows_least_24

set_option maxHeartbeats 4000000 in
set_option maxRecDepth 100000 in
theorem c_DeltaRows_width (l : Launch) (D : va_G) (cI cJ : ClassId) (o : Nat) (ro : Nat) (bo : Nat) (so : Nat) (la : Nat) (lb : Nat) (rc : Nat) (hl1 : Nat) (hi1 : Nat) (hs1 : Nat) (bc : Nat) (wi : Nat → Int32) (k : Int32) (pp : Int32) (hbc : bc ≤ 32) : Ct l D (zT cI cJ) y_DeltaRows_width b_DeltaRows_width 3 (some .int) 2 43 0 0 [.ref o, .int k, .int pp] [(o, .inr (3, [.ref ro, .int (nI rc), .ref bo, .ref so, .ref la, .ref lb])), (la, .inr (1, [.int (nI bc), .ref hl1, .ref hi1, .ref hs1])), (hi1, .inl (cI, 128, .inl wi))] (zEq (some (.int (p_part bc wi k pp))) [(o, .inr (3, [.ref ro, .int (nI rc), .ref bo, .ref so, .ref la, .ref lb])), (la, .inr (1, [.int (nI bc), .ref hl1, .ref hi1, .ref hs1])), (hi1, .inl (cI, 128, .inl wi))]) := by
  refine Ct.ofW (by decide) (Nat.le_of_ble_eq_true rfl) ?_
  intro p e s m below meth c A ls C0 hP hD hS hl
  obtain ⟨hx, hb, hml, hown, hts, hK, hN, hr, hlocks, hA, hnm⟩ := C0
  have hl : lv_has ls 3 [(0, .ref o), (1, .int k), (2, .int pp)] := hl
  have hown : s.vm.findClass R_DeltaRows = some m.cls := hown
  refine lv_aload_n hx hb d_DeltaRows_width_0 rfl (lv_at hl 0 rfl) ?_
  refine g_DeltaRows_36 hx hb hts hown hK hP 0 rfl rfl d_DeltaRows_width_1 ?_
  refine lv_iload_n hx hb d_DeltaRows_width_4 rfl (lv_at hl 1 rfl) ?_
  refine lv_iload_n hx hb d_DeltaRows_width_5 rfl (lv_at hl 2 rfl) ?_
  refine z_callEi (wr := [(o, .inr (3, [.ref ro, .int (nI rc), .ref bo, .ref so, .ref la, .ref lb])), (hi1, .inl (cI, 128, .inl wi))]) (w2 := [(o, .inr (3, [.ref ro, .int (nI rc), .ref bo, .ref so, .ref la, .ref lb])), (la, .inr (1, [.int (nI bc), .ref hl1, .ref hi1, .ref hs1])), (hi1, .inl (cI, 128, .inl wi))]) (z_runV (rest := []) hx hb hml hown hts hK hN (c_Layout_hasPart l D cI cJ la hl1 hi1 hs1 bc k pp (by (try dsimp only); omega)) kk_DeltaRows_101 (zP.cut hP [1] rfl) (hD.sub [1] (by decide) rfl) 0 rfl rfl rfl hl.1 rfl (Nat.le_of_ble_eq_true rfl) d_DeltaRows_width_6 (by decide) (by decide)) hP hD hS hA [1] [0, 2] [0, 2, 1] rfl rfl (by decide) (by decide) (by decide) rfl (fun H locs hP hD hS => ?_)
  refine zb_eq (tgt := 28) hx hb d_DeltaRows_width_9 (by decide) (fun c_9 => ?_) (fun c_9 => ?_)
  · skip
    refine lv_iconst (v := (-1)) hx hb d_DeltaRows_width_28 (by decide +kernel) ?_
    exact z_iret hx hb hr hlocks hS hP hD ⟨by unfold p_part; first | rw [if_pos c_9, nI_clamp (by omega), nI_clamp (by omega)] | rw [if_neg (by rw [c_9]; decide)], rfl⟩ d_DeltaRows_width_29
  · skip
    obtain ⟨j, i, hj, hi, rfl, rfl⟩ := p_hp_of (bc := bc) (by omega) c_9
    refine lv_aload_n hx hb d_DeltaRows_width_12 rfl (lv_at hl 0 rfl) ?_
    refine g_DeltaRows_36 hx hb hts hown hK hP 0 rfl rfl d_DeltaRows_width_13 ?_
    refine g_DeltaRows_105 hx hb hts hown hK hP 1 rfl rfl d_DeltaRows_width_16 ?_
    refine lv_iload_n hx hb d_DeltaRows_width_19 rfl (lv_at hl 1 rfl) ?_
    refine lv_iconst (v := nI 4) hx hb d_DeltaRows_width_20 (by decide +kernel) ?_
    refine lv_imul hx hb d_DeltaRows_width_21 (z_i (pk_mul j 4) ?_)
    refine lv_iload_n hx hb d_DeltaRows_width_22 rfl (lv_at hl 2 rfl) ?_
    refine lv_iadd hx hb d_DeltaRows_width_23 (z_i (nI_add (j * 4) i) ?_)
    refine z_iald hx hb hK hP 2 0 rfl rfl (by omega) (by decide) d_DeltaRows_width_24 ?_
    refine lv_goto (tgt := 29) hx hb d_DeltaRows_width_25 (by decide) ?_
    exact z_iret hx hb hr hlocks hS hP hD ⟨by unfold p_part; first | rw [if_pos c_9, nI_clamp (by omega), nI_clamp (by omega)] | rw [if_neg (by rw [c_9]; decide)], rfl⟩ d_DeltaRows_width_29

set_option maxHeartbeats 4000000 in
set_option maxRecDepth 100000 in
theorem c_DeltaRows_start (l : Launch) (D : va_G) (cI cJ : ClassId) (o : Nat) (ro : Nat) (bo : Nat) (so : Nat) (la : Nat) (lb : Nat) (rc : Nat) (hl1 : Nat) (hi1 : Nat) (hs1 : Nat) (bc : Nat) (st : Nat → Int32) (k : Int32) (pp : Int32) (hbc : bc ≤ 32) : Ct l D (zT cI cJ) y_DeltaRows_start b_DeltaRows_start 3 (some .int) 2 43 0 0 [.ref o, .int k, .int pp] [(o, .inr (3, [.ref ro, .int (nI rc), .ref bo, .ref so, .ref la, .ref lb])), (la, .inr (1, [.int (nI bc), .ref hl1, .ref hi1, .ref hs1])), (hs1, .inl (cI, 128, .inl st))] (zEq (some (.int (p_part bc st k pp))) [(o, .inr (3, [.ref ro, .int (nI rc), .ref bo, .ref so, .ref la, .ref lb])), (la, .inr (1, [.int (nI bc), .ref hl1, .ref hi1, .ref hs1])), (hs1, .inl (cI, 128, .inl st))]) := by
  refine Ct.ofW (by decide) (Nat.le_of_ble_eq_true rfl) ?_
  intro p e s m below meth c A ls C0 hP hD hS hl
  obtain ⟨hx, hb, hml, hown, hts, hK, hN, hr, hlocks, hA, hnm⟩ := C0
  have hl : lv_has ls 3 [(0, .ref o), (1, .int k), (2, .int pp)] := hl
  have hown : s.vm.findClass R_DeltaRows = some m.cls := hown
  refine lv_aload_n hx hb d_DeltaRows_start_0 rfl (lv_at hl 0 rfl) ?_
  refine g_DeltaRows_36 hx hb hts hown hK hP 0 rfl rfl d_DeltaRows_start_1 ?_
  refine lv_iload_n hx hb d_DeltaRows_start_4 rfl (lv_at hl 1 rfl) ?_
  refine lv_iload_n hx hb d_DeltaRows_start_5 rfl (lv_at hl 2 rfl) ?_
  refine z_callEi (wr := [(o, .inr (3, [.ref ro, .int (nI rc), .ref bo, .ref so, .ref la, .ref lb])), (hs1, .inl (cI, 128, .inl st))]) (w2 := [(o, .inr (3, [.ref ro, .int (nI rc), .ref bo, .ref so, .ref la, .ref lb])), (la, .inr (1, [.int (nI bc), .ref hl1, .ref hi1, .ref hs1])), (hs1, .inl (cI, 128, .inl st))]) (z_runV (rest := []) hx hb hml hown hts hK hN (c_Layout_hasPart l D cI cJ la hl1 hi1 hs1 bc k pp (by (try dsimp only); omega)) kk_DeltaRows_101 (zP.cut hP [1] rfl) (hD.sub [1] (by decide) rfl) 0 rfl rfl rfl hl.1 rfl (Nat.le_of_ble_eq_true rfl) d_DeltaRows_start_6 (by decide) (by decide)) hP hD hS hA [1] [0, 2] [0, 2, 1] rfl rfl (by decide) (by decide) (by decide) rfl (fun H locs hP hD hS => ?_)
  refine zb_eq (tgt := 28) hx hb d_DeltaRows_start_9 (by decide) (fun c_9 => ?_) (fun c_9 => ?_)
  · skip
    refine lv_iconst (v := (-1)) hx hb d_DeltaRows_start_28 (by decide +kernel) ?_
    exact z_iret hx hb hr hlocks hS hP hD ⟨by unfold p_part; first | rw [if_pos c_9, nI_clamp (by omega), nI_clamp (by omega)] | rw [if_neg (by rw [c_9]; decide)], rfl⟩ d_DeltaRows_start_29
  · skip
    obtain ⟨j, i, hj, hi, rfl, rfl⟩ := p_hp_of (bc := bc) (by omega) c_9
    refine lv_aload_n hx hb d_DeltaRows_start_12 rfl (lv_at hl 0 rfl) ?_
    refine g_DeltaRows_36 hx hb hts hown hK hP 0 rfl rfl d_DeltaRows_start_13 ?_
    refine g_DeltaRows_109 hx hb hts hown hK hP 1 rfl rfl d_DeltaRows_start_16 ?_
    refine lv_iload_n hx hb d_DeltaRows_start_19 rfl (lv_at hl 1 rfl) ?_
    refine lv_iconst (v := nI 4) hx hb d_DeltaRows_start_20 (by decide +kernel) ?_
    refine lv_imul hx hb d_DeltaRows_start_21 (z_i (pk_mul j 4) ?_)
    refine lv_iload_n hx hb d_DeltaRows_start_22 rfl (lv_at hl 2 rfl) ?_
    refine lv_iadd hx hb d_DeltaRows_start_23 (z_i (nI_add (j * 4) i) ?_)
    refine z_iald hx hb hK hP 2 0 rfl rfl (by omega) (by decide) d_DeltaRows_start_24 ?_
    refine lv_goto (tgt := 29) hx hb d_DeltaRows_start_25 (by decide) ?_
    exact z_iret hx hb hr hlocks hS hP hD ⟨by unfold p_part; first | rw [if_pos c_9, nI_clamp (by omega), nI_clamp (by omega)] | rw [if_neg (by rw [c_9]; decide)], rfl⟩ d_DeltaRows_start_29

set_option maxHeartbeats 4000000 in
set_option maxRecDepth 100000 in
theorem c_Layout_init (l : Launch) (D : va_G) (cI cJ : ClassId) (h0 : Nat)  : Ct l D (zT cI cJ) y_Layout_init b_Layout_init 1 none 1 20 3 288 [.ref h0] [(h0, .inr (1, [.int 0, .null, .null, .null]))] (fun r w => r = none ∧ ∃ (hl1 : Nat) (hi1 : Nat) (hs1 : Nat), w = [(h0, .inr (1, [.int (nI 0), .ref hl1, .ref hi1, .ref hs1])), (hl1, .inl (cJ, 32, .inr (.inl (fun _ => 0)))), (hi1, .inl (cI, 128, .inl (fun _ => 0))), (hs1, .inl (cI, 128, .inl (fun _ => 0)))]) := by
  refine Ct.ofW (by decide) (Nat.le_of_ble_eq_true rfl) ?_
  intro p e s m below meth c A ls C0 hP hD hS hl
  obtain ⟨hx, hb, hml, hown, hts, hK, hN, hr, hlocks, hA, hnm⟩ := C0
  have hl : lv_has ls 1 [(0, .ref h0)] := hl
  have hown : s.vm.findClass R_Layout = some m.cls := hown
  refine lv_aload_n hx hb d_Layout_init_0 rfl (lv_at hl 0 rfl) ?_
  refine W.objInit hx hb hown (kw_Layout_3 hts) (ko_1 hts) (ko_2 hts) rfl (by rw [hml]; exact hl.1) rfl d_Layout_init_1 (by decide) (Nat.le_of_ble_eq_true rfl) ?_
  refine W.eq (g2 := F0 m 4 ls []) rfl ?_
  refine lv_aload_n hx hb d_Layout_init_4 rfl (lv_at hl 0 rfl) ?_
  refine lv_iconst (v := nI 0) hx hb d_Layout_init_5 (by decide +kernel) ?_
  refine p_Layout_9 (w2 := [(h0, .inr (1, [.int (nI 0), .null, .null, .null]))]) hx hb hts hown hK hP hD hS 0 rfl (Nat.le_of_ble_eq_true rfl) rfl d_Layout_init_6 (fun H locs hP hD hS => ?_)
  refine lv_aload_n hx hb d_Layout_init_9 rfl (lv_at hl 0 rfl) ?_
  refine lv_bipush (v := nI 32) hx hb d_Layout_init_10 (by decide +kernel) ?_
  refine z_newa (N' := 32) (a0 := (32, .inr (.inl (fun _ => 0)))) hx hb (ka_long hts) (hK.2 1 _ rfl).2 hP hD hS hA (fun _ => rfl) (by decide) (by decide) (by decide) (by decide) (by decide) d_Layout_init_12 (fun qa1 H hP hD hS => ?_)
  have hP : va_P D classes [(h0, .inr (1, [.int (nI 0), .null, .null, .null])), (qa1, .inl (cJ, 32, .inr (.inl (fun _ => 0))))] H := hP
  have hD : va_D A [(h0, .inr (1, [.int (nI 0), .null, .null, .null])), (qa1, .inl (cJ, 32, .inr (.inl (fun _ => 0))))] := hD
  refine p_Layout_15 (w2 := [(h0, .inr (1, [.int (nI 0), .ref qa1, .null, .null])), (qa1, .inl (cJ, 32, .inr (.inl (fun _ => 0))))]) hx hb hts hown hnm hK hP hD hS 0 rfl (Nat.le_of_ble_eq_true rfl) rfl d_Layout_init_14 (fun H locs hP hD hS => ?_)
  refine lv_aload_n hx hb d_Layout_init_17 rfl (lv_at hl 0 rfl) ?_
  refine lv_sipush (v := nI 128) hx hb d_Layout_init_18 (by decide +kernel) ?_
  refine z_newa (N' := 128) (a0 := (128, .inl (fun _ => 0))) hx hb (ka_int hts) (hK.2 0 _ rfl).2 hP hD hS hA (fun _ => rfl) (by decide) (by decide) (by decide) (by decide) (by decide) d_Layout_init_21 (fun qa2 H hP hD hS => ?_)
  have hP : va_P D classes [(h0, .inr (1, [.int (nI 0), .ref qa1, .null, .null])), (qa1, .inl (cJ, 32, .inr (.inl (fun _ => 0)))), (qa2, .inl (cI, 128, .inl (fun _ => 0)))] H := hP
  have hD : va_D A [(h0, .inr (1, [.int (nI 0), .ref qa1, .null, .null])), (qa1, .inl (cJ, 32, .inr (.inl (fun _ => 0)))), (qa2, .inl (cI, 128, .inl (fun _ => 0)))] := hD
  refine p_Layout_19 (w2 := [(h0, .inr (1, [.int (nI 0), .ref qa1, .ref qa2, .null])), (qa1, .inl (cJ, 32, .inr (.inl (fun _ => 0)))), (qa2, .inl (cI, 128, .inl (fun _ => 0)))]) hx hb hts hown hnm hK hP hD hS 0 rfl (Nat.le_of_ble_eq_true rfl) rfl d_Layout_init_23 (fun H locs hP hD hS => ?_)
  refine lv_aload_n hx hb d_Layout_init_26 rfl (lv_at hl 0 rfl) ?_
  refine lv_sipush (v := nI 128) hx hb d_Layout_init_27 (by decide +kernel) ?_
  refine z_newa (N' := 128) (a0 := (128, .inl (fun _ => 0))) hx hb (ka_int hts) (hK.2 0 _ rfl).2 hP hD hS hA (fun _ => rfl) (by decide) (by decide) (by decide) (by decide) (by decide) d_Layout_init_30 (fun qa3 H hP hD hS => ?_)
  have hP : va_P D classes [(h0, .inr (1, [.int (nI 0), .ref qa1, .ref qa2, .null])), (qa1, .inl (cJ, 32, .inr (.inl (fun _ => 0)))), (qa2, .inl (cI, 128, .inl (fun _ => 0))), (qa3, .inl (cI, 128, .inl (fun _ => 0)))] H := hP
  have hD : va_D A [(h0, .inr (1, [.int (nI 0), .ref qa1, .ref qa2, .null])), (qa1, .inl (cJ, 32, .inr (.inl (fun _ => 0)))), (qa2, .inl (cI, 128, .inl (fun _ => 0))), (qa3, .inl (cI, 128, .inl (fun _ => 0)))] := hD
  refine p_Layout_23 (w2 := [(h0, .inr (1, [.int (nI 0), .ref qa1, .ref qa2, .ref qa3])), (qa1, .inl (cJ, 32, .inr (.inl (fun _ => 0)))), (qa2, .inl (cI, 128, .inl (fun _ => 0))), (qa3, .inl (cI, 128, .inl (fun _ => 0)))]) hx hb hts hown hnm hK hP hD hS 0 rfl (Nat.le_of_ble_eq_true rfl) rfl d_Layout_init_32 (fun H locs hP hD hS => ?_)
  have hPD := zP.perm (w2 := [(h0, .inr (1, [.int (nI 0), .ref qa1, .ref qa2, .ref qa3])), (qa1, .inl (cJ, 32, .inr (.inl (fun _ => 0)))), (qa2, .inl (cI, 128, .inl (fun _ => 0))), (qa3, .inl (cI, 128, .inl (fun _ => 0)))]) hP hD [0, 1, 2, 3] (by decide) rfl
  exact z_vret hx hb hr hlocks hS hPD.1 hPD.2 ⟨rfl, qa1, qa2, qa3, rfl⟩ d_Layout_init_35
end
section
/-! what the class's look through the bytes does -/
abbrev SS : Type := Nat × Nat × Int32
def p_nbV (b : BB) (z : SS) : Nat := if z.1 < b.2 then gB b.1 z.1 else 0
def p_nbS (b : BB) (z : SS) : SS := if z.1 < b.2 then (z.1 + 1, z.2) else (z.1, 1, nI b.2)
def p_nvl (b : BB) (beg : Nat) : Nat → Nat → Int64 → SS → Int64 × SS
  | 0, _, _, z => (0, (z.1, 2, nI beg))
  | n + 1, i, v, z =>
    if (p_nbS b z).2.1 = 0 then
      (if (i = 9 ∧ 1 < p_nbV b z) ∨ (0 < i ∧ p_nbV b z = 0) then (0, ((p_nbS b z).1, 2, nI beg))
       else if p_nbV b z < 128 then (v ||| zshl ((nI (p_nbV b z)).toInt64 &&& 127) (nI (7 * i)), p_nbS b z)
       else p_nvl b beg n (i + 1) (v ||| zshl ((nI (p_nbV b z)).toInt64 &&& 127) (nI (7 * i))) (p_nbS b z))
    else (0, p_nbS b z)
def p_nv (b : BB) (z : SS) : Int64 × SS := p_nvl b z.1 10 0 0 z
def p_lo (to k p : Nat) : Nat := p_pe k (p + 1) to - p_pe k p to
def p_nwS (b : BB) (z : SS) (lo : Nat) : SS := if 64 < p_nbV b z ∨ (0 < p_nbV b z ∧ lo = 0) then ((p_nbS b z).1, 5, nI z.1) else p_nbS b z
def p_ppl (b : BB) (z : SS) (w : Nat) : Nat → Nat → SS
  | 0, _ => (z.1 + w * 16 / 8, z.2)
  | n + 1, i => if p_bitsIn b.1 (z.1 * 8 + i * w) w = 0 then p_ppl b z w n (i + 1) else (z.1, 5, nI z.1)
def p_pp (b : BB) (z : SS) (w lo : Nat) : SS := if b.2 - z.1 < w * 16 / 8 then (z.1, 1, nI b.2) else p_ppl b z w (16 - lo) lo
theorem p_nbV_le {b : BB} {z : SS} (hu : b.2 ≤ 20000) : p_nbV b z < 256 := by
  unfold p_nbV
  by_cases h : z.1 < b.2
  · rw [if_pos h]; exact gB_lt (by omega)
  · rw [if_neg h]; decide
theorem p_nbS_le {b : BB} {z : SS} (hz : z.1 ≤ b.2) : (p_nbS b z).1 ≤ b.2 := by
  unfold p_nbS
  by_cases h : z.1 < b.2
  · rw [if_pos h]; exact h
  · rw [if_neg h]; exact hz
theorem p_nvl_le {b : BB} {beg : Nat} : ∀ (n i : Nat) (v : Int64) (z : SS), z.1 ≤ b.2 → (p_nvl b beg n i v z).2.1 ≤ b.2
  | 0, _, _, _, h => h
  | n + 1, i, v, z, h => by
    have h1 := p_nbS_le h
    unfold p_nvl
    by_cases a1 : (p_nbS b z).2.1 = 0
    · rw [if_pos a1]
      by_cases a2 : (i = 9 ∧ 1 < p_nbV b z) ∨ (0 < i ∧ p_nbV b z = 0)
      · rw [if_pos a2]; exact h1
      · rw [if_neg a2]
        by_cases a3 : p_nbV b z < 128
        · rw [if_pos a3]; exact h1
        · rw [if_neg a3]; exact p_nvl_le n _ _ _ h1
    · rw [if_neg a1]; exact h1
theorem p_nv_le {b : BB} {z : SS} (h : z.1 ≤ b.2) : (p_nv b z).2.1 ≤ b.2 := p_nvl_le _ _ _ _ h
theorem p_nwS_le {b : BB} {z : SS} {lo : Nat} (h : z.1 ≤ b.2) : (p_nwS b z lo).1 ≤ b.2 := by
  have h1 := p_nbS_le h
  unfold p_nwS
  by_cases a : 64 < p_nbV b z ∨ (0 < p_nbV b z ∧ lo = 0)
  · rw [if_pos a]; exact h1
  · rw [if_neg a]; exact h1
theorem p_ppl_le {b : BB} {z : SS} {w : Nat} (h : z.1 ≤ b.2) (h2 : z.1 + w * 16 / 8 ≤ b.2) : ∀ (n i : Nat), (p_ppl b z w n i).1 ≤ b.2
  | 0, _ => h2
  | n + 1, i => by
    unfold p_ppl
    by_cases a : p_bitsIn b.1 (z.1 * 8 + i * w) w = 0
    · rw [if_pos a]; exact p_ppl_le h h2 n _
    · rw [if_neg a]; exact h
theorem p_pp_le {b : BB} {z : SS} {w lo : Nat} (h : z.1 ≤ b.2) : (p_pp b z w lo).1 ≤ b.2 := by
  unfold p_pp
  by_cases a : b.2 - z.1 < w * 16 / 8
  · rw [if_pos a]; exact h
  · rw [if_neg a]; exact p_ppl_le h (by omega) _ _
theorem p_nbS_f {b : BB} {z : SS} (h : z.2.1 < 1000000) : (p_nbS b z).2.1 < 1000000 := by
  unfold p_nbS
  by_cases a : z.1 < b.2
  · rw [if_pos a]; exact h
  · rw [if_neg a]; exact (by decide : 1 < 1000000)
theorem p_pe_mono (to k p : Nat) : p_pe k p to ≤ p_pe k (p + 1) to := by unfold p_pe; omega
theorem p_pe_to (to k p : Nat) : p_pe k p to ≤ to := by unfold p_pe; omega
end
section
set_option maxHeartbeats 4000000 in
set_option maxRecDepth 100000 in
theorem c_Scan_refuse (l : Launch) (D : va_G) (cI cJ : ClassId) (h0 : Nat) (bo : Nat) (z : SS) (to : Nat) (fi : Int64) (ki : Nat) (wh : Int32)  : Ct l D (zT cI cJ) y_Scan_refuse b_Scan_refuse 3 none 0 0 0 0 [.ref h0, .int (nI ki), .int wh] [(h0, .inr (2, [.ref bo, .int (nI z.1), .int (nI z.2.1), .int z.2.2, .int (nI to), .long fi]))] (zEq none [(h0, .inr (2, [.ref bo, .int (nI ((z.1, ki, wh).1)), .int (nI ((z.1, ki, wh).2.1)), .int ((z.1, ki, wh).2.2), .int (nI to), .long fi]))]) := by
  refine Ct.ofW (by decide) (Nat.le_of_ble_eq_true rfl) ?_
  intro p e s m below meth c A ls C0 hP hD hS hl
  obtain ⟨hx, hb, hml, hown, hts, hK, hN, hr, hlocks, hA, hnm⟩ := C0
  have hl : lv_has ls 3 [(0, .ref h0), (1, .int (nI ki)), (2, .int wh)] := hl
  have hown : s.vm.findClass R_Scan = some m.cls := hown
  refine lv_aload_n hx hb d_Scan_refuse_0 rfl (lv_at hl 0 rfl) ?_
  refine lv_iload_n hx hb d_Scan_refuse_1 rfl (lv_at hl 1 rfl) ?_
  refine p_Scan_19 (w2 := [(h0, .inr (2, [.ref bo, .int (nI z.1), .int (nI ki), .int z.2.2, .int (nI to), .long fi]))]) hx hb hts hown hK hP hD hS 0 rfl (Nat.le_of_ble_eq_true rfl) rfl d_Scan_refuse_2 (fun H locs hP hD hS => ?_)
  refine lv_aload_n hx hb d_Scan_refuse_5 rfl (lv_at hl 0 rfl) ?_
  refine lv_iload_n hx hb d_Scan_refuse_6 rfl (lv_at hl 2 rfl) ?_
  refine p_Scan_22 (w2 := [(h0, .inr (2, [.ref bo, .int (nI z.1), .int (nI ki), .int wh, .int (nI to), .long fi]))]) hx hb hts hown hK hP hD hS 0 rfl (Nat.le_of_ble_eq_true rfl) rfl d_Scan_refuse_7 (fun H locs hP hD hS => ?_)
  exact z_vret hx hb hr hlocks hS hP hD ⟨rfl, rfl⟩ d_Scan_refuse_10

set_option maxHeartbeats 4000000 in
set_option maxRecDepth 100000 in
theorem c_Scan_isFaultless (l : Launch) (D : va_G) (cI cJ : ClassId) (h0 : Nat) (bo : Nat) (z : SS) (to : Nat) (fi : Int64) (hf : z.2.1 < 1000000) : Ct l D (zT cI cJ) y_Scan_isFaultless b_Scan_isFaultless 1 (some .boolean) 0 0 0 0 [.ref h0] [(h0, .inr (2, [.ref bo, .int (nI z.1), .int (nI z.2.1), .int z.2.2, .int (nI to), .long fi]))] (zEq (some (.int (zb (decide (z.2.1 = 0))))) [(h0, .inr (2, [.ref bo, .int (nI z.1), .int (nI z.2.1), .int z.2.2, .int (nI to), .long fi]))]) := by
  refine Ct.ofW (by decide) (Nat.le_of_ble_eq_true rfl) ?_
  intro p e s m below meth c A ls C0 hP hD hS hl
  obtain ⟨hx, hb, hml, hown, hts, hK, hN, hr, hlocks, hA, hnm⟩ := C0
  have hl : lv_has ls 1 [(0, .ref h0)] := hl
  have hown : s.vm.findClass R_Scan = some m.cls := hown
  refine lv_aload_n hx hb d_Scan_isFaultless_0 rfl (lv_at hl 0 rfl) ?_
  refine g_Scan_19 hx hb hts hown hK hP 0 rfl rfl d_Scan_isFaultless_1 ?_
  refine z0_ne (a := z.2.1) (by omega) hx hb d_Scan_isFaultless_4 (tgt := 11) (by decide) (fun c_4 => ?_) (fun c_4 => ?_)
  · skip
    refine lv_iconst (v := nI 0) hx hb d_Scan_isFaultless_11 (by decide +kernel) ?_
    exact z_bret hx hb hr hlocks (Or.inl rfl) hS hP hD ⟨zb_f (decide_eq_false (by omega)), rfl⟩ d_Scan_isFaultless_12
  · skip
    refine lv_iconst (v := nI 1) hx hb d_Scan_isFaultless_7 (by decide +kernel) ?_
    refine lv_goto (tgt := 12) hx hb d_Scan_isFaultless_8 (by decide) ?_
    exact z_bret hx hb hr hlocks (Or.inr rfl) hS hP hD ⟨zb_t (decide_eq_true (by omega)), rfl⟩ d_Scan_isFaultless_12

set_option maxHeartbeats 4000000 in
set_option maxRecDepth 100000 in
theorem c_Scan_nextByte (l : Launch) (D : va_G) (cI cJ : ClassId) (h0 : Nat) (bo : Nat) (z : SS) (to : Nat) (fi : Int64) (hw : Nat) (b : BB) (hu : b.2 ≤ 20000) (hz : z.1 ≤ b.2) : Ct l D (zT cI cJ) y_Scan_nextByte b_Scan_nextByte 2 (some .int) 3 69 0 0 [.ref h0] [(h0, .inr (2, [.ref bo, .int (nI z.1), .int (nI z.2.1), .int z.2.2, .int (nI to), .long fi])), (bo, .inr (0, [.ref hw, .int (nI b.2)])), (hw, .inl (cJ, 2500, .inr (.inl b.1)))] (zEq (some (.int (nI (p_nbV b z)))) [(h0, .inr (2, [.ref bo, .int (nI ((p_nbS b z).1)), .int (nI ((p_nbS b z).2.1)), .int ((p_nbS b z).2.2), .int (nI to), .long fi])), (bo, .inr (0, [.ref hw, .int (nI b.2)])), (hw, .inl (cJ, 2500, .inr (.inl b.1)))]) := by
  refine Ct.ofW (by decide) (Nat.le_of_ble_eq_true rfl) ?_
  intro p e s m below meth c A ls C0 hP hD hS hl
  obtain ⟨hx, hb, hml, hown, hts, hK, hN, hr, hlocks, hA, hnm⟩ := C0
  have hl : lv_has ls 2 [(0, .ref h0)] := hl
  have hown : s.vm.findClass R_Scan = some m.cls := hown
  refine lv_aload_n hx hb d_Scan_nextByte_0 rfl (lv_at hl 0 rfl) ?_
  refine g_Scan_9 hx hb hts hown hK hP 0 rfl rfl d_Scan_nextByte_1 ?_
  refine lv_aload_n hx hb d_Scan_nextByte_4 rfl (lv_at hl 0 rfl) ?_
  refine g_Scan_15 hx hb hts hown hK hP 0 rfl rfl d_Scan_nextByte_5 ?_
  refine z_callEi (wr := [(h0, .inr (2, [.ref bo, .int (nI z.1), .int (nI z.2.1), .int z.2.2, .int (nI to), .long fi])), (hw, .inl (cJ, 2500, .inr (.inl b.1)))]) (w2 := [(h0, .inr (2, [.ref bo, .int (nI z.1), .int (nI z.2.1), .int z.2.2, .int (nI to), .long fi])), (bo, .inr (0, [.ref hw, .int (nI b.2)])), (hw, .inl (cJ, 2500, .inr (.inl b.1)))]) (z_runV (rest := []) hx hb hml hown hts hK hN (c_ByteRow_has l D cI cJ bo hw b.2 (nI z.1) (by (try dsimp only); omega)) kk_Scan_109 (zP.cut hP [1] rfl) (hD.sub [1] (by decide) rfl) 0 rfl rfl rfl hl.1 rfl (Nat.le_of_ble_eq_true rfl) d_Scan_nextByte_8 (by decide) (by decide)) hP hD hS hA [1] [0, 2] [0, 2, 1] rfl rfl (by decide) (by decide) (by decide) rfl (fun H locs hP hD hS => ?_)
  refine zb_ne (tgt := 28) hx hb d_Scan_nextByte_11 (by decide) (fun c_11 => ?_) (fun c_11 => ?_)
  · skip
    rw [p_has_nI (by omega) (by omega)] at c_11
    have c_11 := of_decide_eq_true c_11
    refine lv_aload_n hx hb d_Scan_nextByte_28 rfl (lv_at hl 0 rfl) ?_
    refine g_Scan_9 hx hb hts hown hK hP 0 rfl rfl d_Scan_nextByte_29 ?_
    refine lv_aload_n hx hb d_Scan_nextByte_32 rfl (lv_at hl 0 rfl) ?_
    refine g_Scan_15 hx hb hts hown hK hP 0 rfl rfl d_Scan_nextByte_33 ?_
    refine z_callEi (wr := [(h0, .inr (2, [.ref bo, .int (nI z.1), .int (nI z.2.1), .int z.2.2, .int (nI to), .long fi]))]) (w2 := [(h0, .inr (2, [.ref bo, .int (nI z.1), .int (nI z.2.1), .int z.2.2, .int (nI to), .long fi])), (bo, .inr (0, [.ref hw, .int (nI b.2)])), (hw, .inl (cJ, 2500, .inr (.inl b.1)))]) (z_runV (rest := []) hx hb hml hown hts hK hN (c_ByteRow_byteIn l D cI cJ bo hw b z.1 (by (try dsimp only); omega)) kk_Scan_113 (zP.cut hP [1, 2] rfl) (hD.sub [1, 2] (by decide) rfl) 0 rfl rfl rfl hl.1 rfl (Nat.le_of_ble_eq_true rfl) d_Scan_nextByte_36 (by decide) (by decide)) hP hD hS hA [1, 2] [0] [0, 1, 2] rfl rfl (by decide) (by decide) (by decide) rfl (fun H locs hP hD hS => ?_)
    refine lv_istore_n (lv' := [(1, .int (nI (gB b.1 z.1))), (0, .ref h0)]) hx hb d_Scan_nextByte_39 rfl hl (by decide) rfl (fun ls hl => ?_)
    refine lv_aload_n hx hb d_Scan_nextByte_40 rfl (lv_at hl 1 rfl) ?_
    refine lv_dup hx hb d_Scan_nextByte_41 rfl ?_
    refine g_Scan_15 hx hb hts hown hK hP 0 rfl rfl d_Scan_nextByte_42 ?_
    refine lv_iconst (v := nI 1) hx hb d_Scan_nextByte_45 (by decide +kernel) ?_
    refine lv_iadd hx hb d_Scan_nextByte_46 (z_i (nI_add z.1 1) ?_)
    refine p_Scan_15 (w2 := [(h0, .inr (2, [.ref bo, .int (nI (z.1 + 1)), .int (nI z.2.1), .int z.2.2, .int (nI to), .long fi])), (bo, .inr (0, [.ref hw, .int (nI b.2)])), (hw, .inl (cJ, 2500, .inr (.inl b.1)))]) hx hb hts hown hK hP hD hS 0 rfl (Nat.le_of_ble_eq_true rfl) rfl d_Scan_nextByte_47 (fun H locs hP hD hS => ?_)
    refine lv_iload_n hx hb d_Scan_nextByte_50 rfl (lv_at hl 0 rfl) ?_
    exact z_iret hx hb hr hlocks hS hP hD ⟨by unfold p_nbV; rw [if_pos c_11], by unfold p_nbS; rw [if_pos c_11] <;> rfl⟩ d_Scan_nextByte_51
  · skip
    rw [p_has_nI (by omega) (by omega)] at c_11
    have c_11 := of_decide_eq_false c_11
    refine lv_aload_n hx hb d_Scan_nextByte_14 rfl (lv_at hl 0 rfl) ?_
    refine lv_iconst (v := nI 1) hx hb d_Scan_nextByte_15 (by decide +kernel) ?_
    refine lv_aload_n hx hb d_Scan_nextByte_16 rfl (lv_at hl 0 rfl) ?_
    refine g_Scan_9 hx hb hts hown hK hP 0 rfl rfl d_Scan_nextByte_17 ?_
    refine g_Scan_52 hx hb hts hown hK hP 1 rfl rfl d_Scan_nextByte_20 ?_
    refine z_callEv (wr := [(bo, .inr (0, [.ref hw, .int (nI b.2)])), (hw, .inl (cJ, 2500, .inr (.inl b.1)))]) (w2 := [(h0, .inr (2, [.ref bo, .int (nI ((z.1, 1, (nI b.2)).1)), .int (nI ((z.1, 1, (nI b.2)).2.1)), .int ((z.1, 1, (nI b.2)).2.2), .int (nI to), .long fi])), (bo, .inr (0, [.ref hw, .int (nI b.2)])), (hw, .inl (cJ, 2500, .inr (.inl b.1)))]) (z_runV (rest := []) hx hb hml hown hts hK hN (c_Scan_refuse l D cI cJ h0 bo z to fi 1 (nI b.2) ) kk_Scan_57 (zP.cut hP [0] rfl) (hD.sub [0] (by decide) rfl) 0 rfl rfl rfl hl.1 rfl (Nat.le_of_ble_eq_true rfl) d_Scan_nextByte_23 (by decide) (by decide)) hP hD hS hA [0] [1, 2] [2, 0, 1] rfl rfl (by decide) (by decide) (by decide) rfl (fun H locs hP hD hS => ?_)
    refine lv_iconst (v := nI 0) hx hb d_Scan_nextByte_26 (by decide +kernel) ?_
    exact z_iret hx hb hr hlocks hS hP hD ⟨by unfold p_nbV; rw [if_neg c_11], by unfold p_nbS; rw [if_neg c_11] <;> rfl⟩ d_Scan_nextByte_27

set_option maxHeartbeats 4000000 in
set_option maxRecDepth 100000 in
theorem c_Scan_nextVarint (l : Launch) (D : va_G) (cI cJ : ClassId) (h0 : Nat) (bo : Nat) (z : SS) (to : Nat) (fi : Int64) (hw : Nat) (b : BB) (hu : b.2 ≤ 20000) (hz : z.1 ≤ b.2) (hf : z.2.1 < 1000000) : Ct l D (zT cI cJ) y_Scan_nextVarint b_Scan_nextVarint 8 (some .long) 4 90 0 0 [.ref h0] [(h0, .inr (2, [.ref bo, .int (nI z.1), .int (nI z.2.1), .int z.2.2, .int (nI to), .long fi])), (bo, .inr (0, [.ref hw, .int (nI b.2)])), (hw, .inl (cJ, 2500, .inr (.inl b.1)))] (zEq (some (.long ((p_nv b z).1))) [(h0, .inr (2, [.ref bo, .int (nI ((p_nv b z).2.1)), .int (nI ((p_nv b z).2.2.1)), .int ((p_nv b z).2.2.2), .int (nI to), .long fi])), (bo, .inr (0, [.ref hw, .int (nI b.2)])), (hw, .inl (cJ, 2500, .inr (.inl b.1)))]) := by
  refine Ct.ofW (by decide) (Nat.le_of_ble_eq_true rfl) ?_
  intro p e s m below meth c A ls C0 hP hD hS hl
  obtain ⟨hx, hb, hml, hown, hts, hK, hN, hr, hlocks, hA, hnm⟩ := C0
  have hl : lv_has ls 8 [(0, .ref h0)] := hl
  have hown : s.vm.findClass R_Scan = some m.cls := hown
  refine lv_aload_n hx hb d_Scan_nextVarint_0 rfl (lv_at hl 0 rfl) ?_
  refine g_Scan_15 hx hb hts hown hK hP 0 rfl rfl d_Scan_nextVarint_1 ?_
  refine lv_istore_n (lv' := [(1, .int (nI z.1)), (0, .ref h0)]) hx hb d_Scan_nextVarint_4 rfl hl (by decide) rfl (fun ls hl => ?_)
  refine lv_lconst (v := 0) hx hb d_Scan_nextVarint_5 (by decide +kernel) ?_
  refine lv_lstore_n (lv' := [(2, .long 0), (1, .int (nI z.1)), (0, .ref h0)]) hx hb d_Scan_nextVarint_6 rfl hl (by decide) rfl (fun ls hl => ?_)
  refine lv_iconst (v := nI 0) hx hb d_Scan_nextVarint_7 (by decide +kernel) ?_
  refine lv_istore (lv' := [(4, .int (nI 0)), (2, .long 0), (1, .int (nI z.1)), (0, .ref h0)]) hx hb d_Scan_nextVarint_8 hl (by decide) rfl (fun ls hl => ?_)
  have hlp10 : ∀ (n : Nat) (i : Nat) (v : Int64) (zc : SS), (i ≤ 10) → (zc.1 ≤ b.2) → (zc.2.1 < 1000000) → (p_nvl b z.1 (10 - i) i v zc = p_nv b z) → 10 - i < n → ∀ (H : Heap) (locs : List Loc), va_P D classes [(h0, .inr (2, [.ref bo, .int (nI zc.1), .int (nI zc.2.1), .int zc.2.2, .int (nI to), .long fi])), (bo, .inr (0, [.ref hw, .int (nI b.2)])), (hw, .inl (cJ, 2500, .inr (.inl b.1)))] H → va_D A [(h0, .inr (2, [.ref bo, .int (nI zc.1), .int (nI zc.2.1), .int zc.2.2, .int (nI to), .long fi])), (bo, .inr (0, [.ref hw, .int (nI b.2)])), (hw, .inl (cJ, 2500, .inr (.inl b.1)))] → va_S A s.heap H locs → ∀ (ls : Array Slot), lv_has ls 8 [(0, .ref h0), (1, .int (nI z.1)), (2, .long v), (4, .int (nI i))] → W p l e { frames := 4, cells := 0, slots := 0, locals := 90 } s m ([.ref h0] : List Value).toArray below meth c H locs 0 0 (MQ below (zQ D (zEq (some (.long ((p_nv b z).1))) [(h0, .inr (2, [.ref bo, .int (nI ((p_nv b z).2.1)), .int (nI ((p_nv b z).2.2.1)), .int ((p_nv b z).2.2.2), .int (nI to), .long fi])), (bo, .inr (0, [.ref hw, .int (nI b.2)])), (hw, .inl (cJ, 2500, .inr (.inl b.1)))]) A) ([.ref h0] : List Value).toArray s 0 0 A) (F0 m 10 ls []) := by
    intro n
    induction n with
    | zero => intro i v zc h1 hz2 hf2 hR hmu; exact absurd hmu (Nat.not_lt_zero _)
    | succ n ih =>
      intro i v zc h1 hz2 hf2 hR hmu H locs hP hD hS ls hl
      have hx8 := p_nbV_le (z := zc) hu
      have hz8 := p_nbS_le hz2
      have hf8 := p_nbS_f (b := b) hf2
      have ih10 := ih
      refine lv_iload hx hb d_Scan_nextVarint_10 (lv_at hl 3 rfl) ?_
      refine lv_bipush (v := nI 10) hx hb d_Scan_nextVarint_12 (by decide +kernel) ?_
      refine zn_ge (a := i) (b := 10) (by omega) (by omega) hx hb d_Scan_nextVarint_14 (tgt := 114) (by decide) (fun c_14 => ?_) (fun c_14 => ?_)
      · skip
        refine lv_aload_n hx hb d_Scan_nextVarint_114 rfl (lv_at hl 0 rfl) ?_
        refine lv_iconst (v := nI 2) hx hb d_Scan_nextVarint_115 (by decide +kernel) ?_
        refine lv_iload_n hx hb d_Scan_nextVarint_116 rfl (lv_at hl 1 rfl) ?_
        refine z_callEv (wr := [(bo, .inr (0, [.ref hw, .int (nI b.2)])), (hw, .inl (cJ, 2500, .inr (.inl b.1)))]) (w2 := [(h0, .inr (2, [.ref bo, .int (nI ((zc.1, 2, (nI z.1)).1)), .int (nI ((zc.1, 2, (nI z.1)).2.1)), .int ((zc.1, 2, (nI z.1)).2.2), .int (nI to), .long fi])), (bo, .inr (0, [.ref hw, .int (nI b.2)])), (hw, .inl (cJ, 2500, .inr (.inl b.1)))]) (z_runV (rest := []) hx hb hml hown hts hK hN (c_Scan_refuse l D cI cJ h0 bo zc to fi 2 (nI z.1) ) kk_Scan_57 (zP.cut hP [0] rfl) (hD.sub [0] (by decide) rfl) 0 rfl rfl rfl hl.1 rfl (Nat.le_of_ble_eq_true rfl) d_Scan_nextVarint_117 (by decide) (by decide)) hP hD hS hA [0] [1, 2] [2, 0, 1] rfl rfl (by decide) (by decide) (by decide) rfl (fun H locs hP hD hS => ?_)
        refine lv_lconst (v := 0) hx hb d_Scan_nextVarint_120 (by decide +kernel) ?_
        exact z_lret hx hb hr hlocks hS hP hD ⟨by rw [← hR]; first | (rw [show 10 - i = 0 by omega]; rfl) | (rw [show 10 - i = (10 - (i + 1)) + 1 by omega, p_nvl, if_pos c_27, if_pos (by omega)]), by rw [← hR]; first | (rw [show 10 - i = 0 by omega]; rfl) | (rw [show 10 - i = (10 - (i + 1)) + 1 by omega, p_nvl, if_pos c_27, if_pos (by omega)])⟩ d_Scan_nextVarint_121
      · skip
        refine lv_aload_n hx hb d_Scan_nextVarint_17 rfl (lv_at hl 0 rfl) ?_
        refine z_callEi (wr := []) (w2 := [(h0, .inr (2, [.ref bo, .int (nI ((p_nbS b zc).1)), .int (nI ((p_nbS b zc).2.1)), .int ((p_nbS b zc).2.2), .int (nI to), .long fi])), (bo, .inr (0, [.ref hw, .int (nI b.2)])), (hw, .inl (cJ, 2500, .inr (.inl b.1)))]) (z_runV (rest := []) hx hb hml hown hts hK hN (c_Scan_nextByte l D cI cJ h0 bo zc to fi hw b (by (try dsimp only); omega) (by (try dsimp only); omega)) kk_Scan_96 (zP.cut hP [0, 1, 2] rfl) (hD.sub [0, 1, 2] (by decide) rfl) 0 rfl rfl rfl hl.1 rfl (Nat.le_of_ble_eq_true rfl) d_Scan_nextVarint_18 (by decide) (by decide)) hP hD hS hA [0, 1, 2] [] [0, 1, 2] rfl rfl (by decide) (by decide) (by decide) rfl (fun H locs hP hD hS => ?_)
        refine lv_istore (lv' := [(5, .int (nI (p_nbV b zc))), (0, .ref h0), (1, .int (nI z.1)), (2, .long v), (4, .int (nI i))]) hx hb d_Scan_nextVarint_21 hl (by decide) rfl (fun ls hl => ?_)
        refine lv_aload_n hx hb d_Scan_nextVarint_23 rfl (lv_at hl 1 rfl) ?_
        refine z_callEi (wr := [(bo, .inr (0, [.ref hw, .int (nI b.2)])), (hw, .inl (cJ, 2500, .inr (.inl b.1)))]) (w2 := [(h0, .inr (2, [.ref bo, .int (nI (p_nbS b zc).1), .int (nI (p_nbS b zc).2.1), .int ((p_nbS b zc).2.2), .int (nI to), .long fi])), (bo, .inr (0, [.ref hw, .int (nI b.2)])), (hw, .inl (cJ, 2500, .inr (.inl b.1)))]) (z_runV (rest := []) hx hb hml hown hts hK hN (c_Scan_isFaultless l D cI cJ h0 bo (p_nbS b zc) to fi (by (try dsimp only); omega)) kk_Scan_44 (zP.cut hP [0] rfl) (hD.sub [0] (by decide) rfl) 0 rfl rfl rfl hl.1 rfl (Nat.le_of_ble_eq_true rfl) d_Scan_nextVarint_24 (by decide) (by decide)) hP hD hS hA [0] [1, 2] [2, 0, 1] rfl rfl (by decide) (by decide) (by decide) rfl (fun H locs hP hD hS => ?_)
        refine zb_ne (tgt := 32) hx hb d_Scan_nextVarint_27 (by decide) (fun c_27 => ?_) (fun c_27 => ?_)
        · skip
          have c_27 := of_decide_eq_true c_27
          refine lv_iload hx hb d_Scan_nextVarint_32 (lv_at hl 4 rfl) ?_
          refine lv_bipush (v := nI 9) hx hb d_Scan_nextVarint_34 (by decide +kernel) ?_
          refine zn_ne (a := i) (b := 9) (by omega) (by omega) hx hb d_Scan_nextVarint_36 (tgt := 49) (by decide) (fun c_36 => ?_) (fun c_36 => ?_)
          · skip
            refine lv_iconst (v := nI 0) hx hb d_Scan_nextVarint_49 (by decide +kernel) ?_
            refine lv_istore (lv' := [(6, .int (nI 0)), (5, .int (nI (p_nbV b zc))), (0, .ref h0), (1, .int (nI z.1)), (2, .long v), (4, .int (nI i))]) hx hb d_Scan_nextVarint_50 hl (by decide) rfl (fun ls hl => ?_)
            refine lv_iload hx hb d_Scan_nextVarint_52 (lv_at hl 5 rfl) ?_
            refine z0_le (a := i) (by omega) hx hb d_Scan_nextVarint_54 (tgt := 66) (by decide) (fun c_54 => ?_) (fun c_54 => ?_)
            · skip
              refine lv_iconst (v := nI 0) hx hb d_Scan_nextVarint_66 (by decide +kernel) ?_
              refine lv_istore (lv' := [(7, .int (nI 0)), (6, .int (nI 0)), (5, .int (nI (p_nbV b zc))), (0, .ref h0), (1, .int (nI z.1)), (2, .long v), (4, .int (nI i))]) hx hb d_Scan_nextVarint_67 hl (by decide) rfl (fun ls hl => ?_)
              refine lv_iload hx hb d_Scan_nextVarint_69 (lv_at hl 1 rfl) ?_
              refine z0_ne (a := 0) (by omega) hx hb d_Scan_nextVarint_71 (tgt := 114) (by decide) (fun z => absurd z (by decide)) (fun _ => ?_)
              refine lv_iload hx hb d_Scan_nextVarint_74 (lv_at hl 0 rfl) ?_
              refine z0_eq (a := 0) (by omega) hx hb d_Scan_nextVarint_76 (tgt := 82) (by decide) (fun _ => ?_) (fun z => absurd z (by decide))
              refine lv_lload_n hx hb d_Scan_nextVarint_82 rfl (lv_at hl 5 rfl) ?_
              refine lv_iload hx hb d_Scan_nextVarint_83 (lv_at hl 2 rfl) ?_
              refine lv_i2l (v := (nI (p_nbV b zc)).toInt64) hx hb d_Scan_nextVarint_85 rfl ?_
              refine lv_ldc2 (v := (127)) hx hb hown (kc_Scan_107 hts) d_Scan_nextVarint_86 ?_
              refine lv_land hx hb d_Scan_nextVarint_89 ?_
              refine lv_bipush (v := nI 7) hx hb d_Scan_nextVarint_90 (by decide +kernel) ?_
              refine lv_iload hx hb d_Scan_nextVarint_92 (lv_at hl 6 rfl) ?_
              refine lv_imul hx hb d_Scan_nextVarint_94 (z_i (pk_mul 7 i) ?_)
              refine lv_lshl (v := zshl (((nI (p_nbV b zc)).toInt64) &&& (127)) (nI (7 * i))) hx hb d_Scan_nextVarint_95 rfl ?_
              refine lv_lor hx hb d_Scan_nextVarint_96 ?_
              refine lv_lstore_n (lv' := [(2, .long (v ||| (zshl (((nI (p_nbV b zc)).toInt64) &&& (127)) (nI (7 * i))))), (7, .int (nI 0)), (6, .int (nI 0)), (5, .int (nI (p_nbV b zc))), (0, .ref h0), (1, .int (nI z.1)), (4, .int (nI i))]) hx hb d_Scan_nextVarint_97 rfl hl (by decide) rfl (fun ls hl => ?_)
              refine lv_iload hx hb d_Scan_nextVarint_98 (lv_at hl 3 rfl) ?_
              refine lv_sipush (v := nI 128) hx hb d_Scan_nextVarint_100 (by decide +kernel) ?_
              refine zn_ge (a := p_nbV b zc) (b := 128) (by omega) (by omega) hx hb d_Scan_nextVarint_103 (tgt := 108) (by decide) (fun c_103 => ?_) (fun c_103 => ?_)
              · skip
                refine lv_iinc (v := nI (i + 1)) (lv' := [(4, .int (nI (i + 1))), (2, .long (v ||| (zshl (((nI (p_nbV b zc)).toInt64) &&& (127)) (nI (7 * i))))), (7, .int (nI 0)), (6, .int (nI 0)), (5, .int (nI (p_nbV b zc))), (0, .ref h0), (1, .int (nI z.1))]) hx hb d_Scan_nextVarint_108 hl (k := 6) rfl (zinc i 1) (by decide) rfl (fun ls hl => ?_)
                refine lv_goto (tgt := 10) hx hb d_Scan_nextVarint_111 (by decide) ?_
                exact ih10 (i + 1) (v ||| zshl ((nI (p_nbV b zc)).toInt64 &&& 127) (nI (7 * i))) (p_nbS b zc) (by omega) hz8 hf8 (by rw [show 10 - i = (10 - (i + 1)) + 1 by omega, p_nvl, if_pos c_27, if_neg (by omega), if_neg (by omega)] at hR; exact hR) (by omega) _ _ hP hD hS ls (lv_sub hl [5, 6, 1, 0] rfl)
              · skip
                refine lv_lload_n hx hb d_Scan_nextVarint_106 rfl (lv_at hl 0 rfl) ?_
                exact z_lret hx hb hr hlocks hS hP hD ⟨by rw [← hR, show 10 - i = (10 - (i + 1)) + 1 by omega, p_nvl, if_pos c_27, if_neg (by omega), if_pos (by omega)], by rw [← hR, show 10 - i = (10 - (i + 1)) + 1 by omega, p_nvl, if_pos c_27, if_neg (by omega), if_pos (by omega)]⟩ d_Scan_nextVarint_107
            · skip
              refine lv_iload hx hb d_Scan_nextVarint_57 (lv_at hl 1 rfl) ?_
              refine z0_ne (a := p_nbV b zc) (by omega) hx hb d_Scan_nextVarint_59 (tgt := 66) (by decide) (fun c_59 => ?_) (fun c_59 => ?_)
              · skip
                refine lv_iconst (v := nI 0) hx hb d_Scan_nextVarint_66 (by decide +kernel) ?_
                refine lv_istore (lv' := [(7, .int (nI 0)), (6, .int (nI 0)), (5, .int (nI (p_nbV b zc))), (0, .ref h0), (1, .int (nI z.1)), (2, .long v), (4, .int (nI i))]) hx hb d_Scan_nextVarint_67 hl (by decide) rfl (fun ls hl => ?_)
                refine lv_iload hx hb d_Scan_nextVarint_69 (lv_at hl 1 rfl) ?_
                refine z0_ne (a := 0) (by omega) hx hb d_Scan_nextVarint_71 (tgt := 114) (by decide) (fun z => absurd z (by decide)) (fun _ => ?_)
                refine lv_iload hx hb d_Scan_nextVarint_74 (lv_at hl 0 rfl) ?_
                refine z0_eq (a := 0) (by omega) hx hb d_Scan_nextVarint_76 (tgt := 82) (by decide) (fun _ => ?_) (fun z => absurd z (by decide))
                refine lv_lload_n hx hb d_Scan_nextVarint_82 rfl (lv_at hl 5 rfl) ?_
                refine lv_iload hx hb d_Scan_nextVarint_83 (lv_at hl 2 rfl) ?_
                refine lv_i2l (v := (nI (p_nbV b zc)).toInt64) hx hb d_Scan_nextVarint_85 rfl ?_
                refine lv_ldc2 (v := (127)) hx hb hown (kc_Scan_107 hts) d_Scan_nextVarint_86 ?_
                refine lv_land hx hb d_Scan_nextVarint_89 ?_
                refine lv_bipush (v := nI 7) hx hb d_Scan_nextVarint_90 (by decide +kernel) ?_
                refine lv_iload hx hb d_Scan_nextVarint_92 (lv_at hl 6 rfl) ?_
                refine lv_imul hx hb d_Scan_nextVarint_94 (z_i (pk_mul 7 i) ?_)
                refine lv_lshl (v := zshl (((nI (p_nbV b zc)).toInt64) &&& (127)) (nI (7 * i))) hx hb d_Scan_nextVarint_95 rfl ?_
                refine lv_lor hx hb d_Scan_nextVarint_96 ?_
                refine lv_lstore_n (lv' := [(2, .long (v ||| (zshl (((nI (p_nbV b zc)).toInt64) &&& (127)) (nI (7 * i))))), (7, .int (nI 0)), (6, .int (nI 0)), (5, .int (nI (p_nbV b zc))), (0, .ref h0), (1, .int (nI z.1)), (4, .int (nI i))]) hx hb d_Scan_nextVarint_97 rfl hl (by decide) rfl (fun ls hl => ?_)
                refine lv_iload hx hb d_Scan_nextVarint_98 (lv_at hl 3 rfl) ?_
                refine lv_sipush (v := nI 128) hx hb d_Scan_nextVarint_100 (by decide +kernel) ?_
                refine zn_ge (a := p_nbV b zc) (b := 128) (by omega) (by omega) hx hb d_Scan_nextVarint_103 (tgt := 108) (by decide) (fun c_103 => ?_) (fun c_103 => ?_)
                · skip
                  refine lv_iinc (v := nI (i + 1)) (lv' := [(4, .int (nI (i + 1))), (2, .long (v ||| (zshl (((nI (p_nbV b zc)).toInt64) &&& (127)) (nI (7 * i))))), (7, .int (nI 0)), (6, .int (nI 0)), (5, .int (nI (p_nbV b zc))), (0, .ref h0), (1, .int (nI z.1))]) hx hb d_Scan_nextVarint_108 hl (k := 6) rfl (zinc i 1) (by decide) rfl (fun ls hl => ?_)
                  refine lv_goto (tgt := 10) hx hb d_Scan_nextVarint_111 (by decide) ?_
                  exact ih10 (i + 1) (v ||| zshl ((nI (p_nbV b zc)).toInt64 &&& 127) (nI (7 * i))) (p_nbS b zc) (by omega) hz8 hf8 (by rw [show 10 - i = (10 - (i + 1)) + 1 by omega, p_nvl, if_pos c_27, if_neg (by omega), if_neg (by omega)] at hR; exact hR) (by omega) _ _ hP hD hS ls (lv_sub hl [5, 6, 1, 0] rfl)
                · skip
                  refine lv_lload_n hx hb d_Scan_nextVarint_106 rfl (lv_at hl 0 rfl) ?_
                  exact z_lret hx hb hr hlocks hS hP hD ⟨by rw [← hR, show 10 - i = (10 - (i + 1)) + 1 by omega, p_nvl, if_pos c_27, if_neg (by omega), if_pos (by omega)], by rw [← hR, show 10 - i = (10 - (i + 1)) + 1 by omega, p_nvl, if_pos c_27, if_neg (by omega), if_pos (by omega)]⟩ d_Scan_nextVarint_107
              · skip
                refine lv_iconst (v := nI 1) hx hb d_Scan_nextVarint_62 (by decide +kernel) ?_
                refine lv_goto (tgt := 67) hx hb d_Scan_nextVarint_63 (by decide) ?_
                refine lv_istore (lv' := [(7, .int (nI 1)), (6, .int (nI 0)), (5, .int (nI (p_nbV b zc))), (0, .ref h0), (1, .int (nI z.1)), (2, .long v), (4, .int (nI i))]) hx hb d_Scan_nextVarint_67 hl (by decide) rfl (fun ls hl => ?_)
                refine lv_iload hx hb d_Scan_nextVarint_69 (lv_at hl 1 rfl) ?_
                refine z0_ne (a := 0) (by omega) hx hb d_Scan_nextVarint_71 (tgt := 114) (by decide) (fun z => absurd z (by decide)) (fun _ => ?_)
                refine lv_iload hx hb d_Scan_nextVarint_74 (lv_at hl 0 rfl) ?_
                refine z0_eq (a := 1) (by omega) hx hb d_Scan_nextVarint_76 (tgt := 82) (by decide) (fun z => absurd z (by decide)) (fun _ => ?_)
                refine lv_goto (tgt := 114) hx hb d_Scan_nextVarint_79 (by decide) ?_
                refine lv_aload_n hx hb d_Scan_nextVarint_114 rfl (lv_at hl 3 rfl) ?_
                refine lv_iconst (v := nI 2) hx hb d_Scan_nextVarint_115 (by decide +kernel) ?_
                refine lv_iload_n hx hb d_Scan_nextVarint_116 rfl (lv_at hl 4 rfl) ?_
                refine z_callEv (wr := [(bo, .inr (0, [.ref hw, .int (nI b.2)])), (hw, .inl (cJ, 2500, .inr (.inl b.1)))]) (w2 := [(h0, .inr (2, [.ref bo, .int (nI (((p_nbS b zc).1, 2, (nI z.1)).1)), .int (nI (((p_nbS b zc).1, 2, (nI z.1)).2.1)), .int (((p_nbS b zc).1, 2, (nI z.1)).2.2), .int (nI to), .long fi])), (bo, .inr (0, [.ref hw, .int (nI b.2)])), (hw, .inl (cJ, 2500, .inr (.inl b.1)))]) (z_runV (rest := []) hx hb hml hown hts hK hN (c_Scan_refuse l D cI cJ h0 bo (p_nbS b zc) to fi 2 (nI z.1) ) kk_Scan_57 (zP.cut hP [0] rfl) (hD.sub [0] (by decide) rfl) 0 rfl rfl rfl hl.1 rfl (Nat.le_of_ble_eq_true rfl) d_Scan_nextVarint_117 (by decide) (by decide)) hP hD hS hA [0] [1, 2] [2, 0, 1] rfl rfl (by decide) (by decide) (by decide) rfl (fun H locs hP hD hS => ?_)
                refine lv_lconst (v := 0) hx hb d_Scan_nextVarint_120 (by decide +kernel) ?_
                exact z_lret hx hb hr hlocks hS hP hD ⟨by rw [← hR]; first | (rw [show 10 - i = 0 by omega]; rfl) | (rw [show 10 - i = (10 - (i + 1)) + 1 by omega, p_nvl, if_pos c_27, if_pos (by omega)]), by rw [← hR]; first | (rw [show 10 - i = 0 by omega]; rfl) | (rw [show 10 - i = (10 - (i + 1)) + 1 by omega, p_nvl, if_pos c_27, if_pos (by omega)])⟩ d_Scan_nextVarint_121
          · skip
            refine lv_iload hx hb d_Scan_nextVarint_39 (lv_at hl 0 rfl) ?_
            refine lv_iconst (v := nI 1) hx hb d_Scan_nextVarint_41 (by decide +kernel) ?_
            refine zn_le (a := p_nbV b zc) (b := 1) (by omega) (by omega) hx hb d_Scan_nextVarint_42 (tgt := 49) (by decide) (fun c_42 => ?_) (fun c_42 => ?_)
            · skip
              refine lv_iconst (v := nI 0) hx hb d_Scan_nextVarint_49 (by decide +kernel) ?_
              refine lv_istore (lv' := [(6, .int (nI 0)), (5, .int (nI (p_nbV b zc))), (0, .ref h0), (1, .int (nI z.1)), (2, .long v), (4, .int (nI i))]) hx hb d_Scan_nextVarint_50 hl (by decide) rfl (fun ls hl => ?_)
              refine lv_iload hx hb d_Scan_nextVarint_52 (lv_at hl 5 rfl) ?_
              refine z0_le (a := i) (by omega) hx hb d_Scan_nextVarint_54 (tgt := 66) (by decide) (fun c_54 => ?_) (fun c_54 => ?_)
              · skip
                refine lv_iconst (v := nI 0) hx hb d_Scan_nextVarint_66 (by decide +kernel) ?_
                refine lv_istore (lv' := [(7, .int (nI 0)), (6, .int (nI 0)), (5, .int (nI (p_nbV b zc))), (0, .ref h0), (1, .int (nI z.1)), (2, .long v), (4, .int (nI i))]) hx hb d_Scan_nextVarint_67 hl (by decide) rfl (fun ls hl => ?_)
                refine lv_iload hx hb d_Scan_nextVarint_69 (lv_at hl 1 rfl) ?_
                refine z0_ne (a := 0) (by omega) hx hb d_Scan_nextVarint_71 (tgt := 114) (by decide) (fun z => absurd z (by decide)) (fun _ => ?_)
                refine lv_iload hx hb d_Scan_nextVarint_74 (lv_at hl 0 rfl) ?_
                refine z0_eq (a := 0) (by omega) hx hb d_Scan_nextVarint_76 (tgt := 82) (by decide) (fun _ => ?_) (fun z => absurd z (by decide))
                refine lv_lload_n hx hb d_Scan_nextVarint_82 rfl (lv_at hl 5 rfl) ?_
                refine lv_iload hx hb d_Scan_nextVarint_83 (lv_at hl 2 rfl) ?_
                refine lv_i2l (v := (nI (p_nbV b zc)).toInt64) hx hb d_Scan_nextVarint_85 rfl ?_
                refine lv_ldc2 (v := (127)) hx hb hown (kc_Scan_107 hts) d_Scan_nextVarint_86 ?_
                refine lv_land hx hb d_Scan_nextVarint_89 ?_
                refine lv_bipush (v := nI 7) hx hb d_Scan_nextVarint_90 (by decide +kernel) ?_
                refine lv_iload hx hb d_Scan_nextVarint_92 (lv_at hl 6 rfl) ?_
                refine lv_imul hx hb d_Scan_nextVarint_94 (z_i (pk_mul 7 i) ?_)
                refine lv_lshl (v := zshl (((nI (p_nbV b zc)).toInt64) &&& (127)) (nI (7 * i))) hx hb d_Scan_nextVarint_95 rfl ?_
                refine lv_lor hx hb d_Scan_nextVarint_96 ?_
                refine lv_lstore_n (lv' := [(2, .long (v ||| (zshl (((nI (p_nbV b zc)).toInt64) &&& (127)) (nI (7 * i))))), (7, .int (nI 0)), (6, .int (nI 0)), (5, .int (nI (p_nbV b zc))), (0, .ref h0), (1, .int (nI z.1)), (4, .int (nI i))]) hx hb d_Scan_nextVarint_97 rfl hl (by decide) rfl (fun ls hl => ?_)
                refine lv_iload hx hb d_Scan_nextVarint_98 (lv_at hl 3 rfl) ?_
                refine lv_sipush (v := nI 128) hx hb d_Scan_nextVarint_100 (by decide +kernel) ?_
                refine zn_ge (a := p_nbV b zc) (b := 128) (by omega) (by omega) hx hb d_Scan_nextVarint_103 (tgt := 108) (by decide) (fun c_103 => ?_) (fun c_103 => ?_)
                · skip
                  refine lv_iinc (v := nI (i + 1)) (lv' := [(4, .int (nI (i + 1))), (2, .long (v ||| (zshl (((nI (p_nbV b zc)).toInt64) &&& (127)) (nI (7 * i))))), (7, .int (nI 0)), (6, .int (nI 0)), (5, .int (nI (p_nbV b zc))), (0, .ref h0), (1, .int (nI z.1))]) hx hb d_Scan_nextVarint_108 hl (k := 6) rfl (zinc i 1) (by decide) rfl (fun ls hl => ?_)
                  refine lv_goto (tgt := 10) hx hb d_Scan_nextVarint_111 (by decide) ?_
                  exact ih10 (i + 1) (v ||| zshl ((nI (p_nbV b zc)).toInt64 &&& 127) (nI (7 * i))) (p_nbS b zc) (by omega) hz8 hf8 (by rw [show 10 - i = (10 - (i + 1)) + 1 by omega, p_nvl, if_pos c_27, if_neg (by omega), if_neg (by omega)] at hR; exact hR) (by omega) _ _ hP hD hS ls (lv_sub hl [5, 6, 1, 0] rfl)
                · skip
                  refine lv_lload_n hx hb d_Scan_nextVarint_106 rfl (lv_at hl 0 rfl) ?_
                  exact z_lret hx hb hr hlocks hS hP hD ⟨by rw [← hR, show 10 - i = (10 - (i + 1)) + 1 by omega, p_nvl, if_pos c_27, if_neg (by omega), if_pos (by omega)], by rw [← hR, show 10 - i = (10 - (i + 1)) + 1 by omega, p_nvl, if_pos c_27, if_neg (by omega), if_pos (by omega)]⟩ d_Scan_nextVarint_107
              · skip
                refine lv_iload hx hb d_Scan_nextVarint_57 (lv_at hl 1 rfl) ?_
                refine z0_ne (a := p_nbV b zc) (by omega) hx hb d_Scan_nextVarint_59 (tgt := 66) (by decide) (fun c_59 => ?_) (fun c_59 => ?_)
                · skip
                  refine lv_iconst (v := nI 0) hx hb d_Scan_nextVarint_66 (by decide +kernel) ?_
                  refine lv_istore (lv' := [(7, .int (nI 0)), (6, .int (nI 0)), (5, .int (nI (p_nbV b zc))), (0, .ref h0), (1, .int (nI z.1)), (2, .long v), (4, .int (nI i))]) hx hb d_Scan_nextVarint_67 hl (by decide) rfl (fun ls hl => ?_)
                  refine lv_iload hx hb d_Scan_nextVarint_69 (lv_at hl 1 rfl) ?_
                  refine z0_ne (a := 0) (by omega) hx hb d_Scan_nextVarint_71 (tgt := 114) (by decide) (fun z => absurd z (by decide)) (fun _ => ?_)
                  refine lv_iload hx hb d_Scan_nextVarint_74 (lv_at hl 0 rfl) ?_
                  refine z0_eq (a := 0) (by omega) hx hb d_Scan_nextVarint_76 (tgt := 82) (by decide) (fun _ => ?_) (fun z => absurd z (by decide))
                  refine lv_lload_n hx hb d_Scan_nextVarint_82 rfl (lv_at hl 5 rfl) ?_
                  refine lv_iload hx hb d_Scan_nextVarint_83 (lv_at hl 2 rfl) ?_
                  refine lv_i2l (v := (nI (p_nbV b zc)).toInt64) hx hb d_Scan_nextVarint_85 rfl ?_
                  refine lv_ldc2 (v := (127)) hx hb hown (kc_Scan_107 hts) d_Scan_nextVarint_86 ?_
                  refine lv_land hx hb d_Scan_nextVarint_89 ?_
                  refine lv_bipush (v := nI 7) hx hb d_Scan_nextVarint_90 (by decide +kernel) ?_
                  refine lv_iload hx hb d_Scan_nextVarint_92 (lv_at hl 6 rfl) ?_
                  refine lv_imul hx hb d_Scan_nextVarint_94 (z_i (pk_mul 7 i) ?_)
                  refine lv_lshl (v := zshl (((nI (p_nbV b zc)).toInt64) &&& (127)) (nI (7 * i))) hx hb d_Scan_nextVarint_95 rfl ?_
                  refine lv_lor hx hb d_Scan_nextVarint_96 ?_
                  refine lv_lstore_n (lv' := [(2, .long (v ||| (zshl (((nI (p_nbV b zc)).toInt64) &&& (127)) (nI (7 * i))))), (7, .int (nI 0)), (6, .int (nI 0)), (5, .int (nI (p_nbV b zc))), (0, .ref h0), (1, .int (nI z.1)), (4, .int (nI i))]) hx hb d_Scan_nextVarint_97 rfl hl (by decide) rfl (fun ls hl => ?_)
                  refine lv_iload hx hb d_Scan_nextVarint_98 (lv_at hl 3 rfl) ?_
                  refine lv_sipush (v := nI 128) hx hb d_Scan_nextVarint_100 (by decide +kernel) ?_
                  refine zn_ge (a := p_nbV b zc) (b := 128) (by omega) (by omega) hx hb d_Scan_nextVarint_103 (tgt := 108) (by decide) (fun c_103 => ?_) (fun c_103 => ?_)
                  · skip
                    refine lv_iinc (v := nI (i + 1)) (lv' := [(4, .int (nI (i + 1))), (2, .long (v ||| (zshl (((nI (p_nbV b zc)).toInt64) &&& (127)) (nI (7 * i))))), (7, .int (nI 0)), (6, .int (nI 0)), (5, .int (nI (p_nbV b zc))), (0, .ref h0), (1, .int (nI z.1))]) hx hb d_Scan_nextVarint_108 hl (k := 6) rfl (zinc i 1) (by decide) rfl (fun ls hl => ?_)
                    refine lv_goto (tgt := 10) hx hb d_Scan_nextVarint_111 (by decide) ?_
                    exact ih10 (i + 1) (v ||| zshl ((nI (p_nbV b zc)).toInt64 &&& 127) (nI (7 * i))) (p_nbS b zc) (by omega) hz8 hf8 (by rw [show 10 - i = (10 - (i + 1)) + 1 by omega, p_nvl, if_pos c_27, if_neg (by omega), if_neg (by omega)] at hR; exact hR) (by omega) _ _ hP hD hS ls (lv_sub hl [5, 6, 1, 0] rfl)
                  · skip
                    refine lv_lload_n hx hb d_Scan_nextVarint_106 rfl (lv_at hl 0 rfl) ?_
                    exact z_lret hx hb hr hlocks hS hP hD ⟨by rw [← hR, show 10 - i = (10 - (i + 1)) + 1 by omega, p_nvl, if_pos c_27, if_neg (by omega), if_pos (by omega)], by rw [← hR, show 10 - i = (10 - (i + 1)) + 1 by omega, p_nvl, if_pos c_27, if_neg (by omega), if_pos (by omega)]⟩ d_Scan_nextVarint_107
                · skip
                  refine lv_iconst (v := nI 1) hx hb d_Scan_nextVarint_62 (by decide +kernel) ?_
                  refine lv_goto (tgt := 67) hx hb d_Scan_nextVarint_63 (by decide) ?_
                  refine lv_istore (lv' := [(7, .int (nI 1)), (6, .int (nI 0)), (5, .int (nI (p_nbV b zc))), (0, .ref h0), (1, .int (nI z.1)), (2, .long v), (4, .int (nI i))]) hx hb d_Scan_nextVarint_67 hl (by decide) rfl (fun ls hl => ?_)
                  refine lv_iload hx hb d_Scan_nextVarint_69 (lv_at hl 1 rfl) ?_
                  refine z0_ne (a := 0) (by omega) hx hb d_Scan_nextVarint_71 (tgt := 114) (by decide) (fun z => absurd z (by decide)) (fun _ => ?_)
                  refine lv_iload hx hb d_Scan_nextVarint_74 (lv_at hl 0 rfl) ?_
                  refine z0_eq (a := 1) (by omega) hx hb d_Scan_nextVarint_76 (tgt := 82) (by decide) (fun z => absurd z (by decide)) (fun _ => ?_)
                  refine lv_goto (tgt := 114) hx hb d_Scan_nextVarint_79 (by decide) ?_
                  refine lv_aload_n hx hb d_Scan_nextVarint_114 rfl (lv_at hl 3 rfl) ?_
                  refine lv_iconst (v := nI 2) hx hb d_Scan_nextVarint_115 (by decide +kernel) ?_
                  refine lv_iload_n hx hb d_Scan_nextVarint_116 rfl (lv_at hl 4 rfl) ?_
                  refine z_callEv (wr := [(bo, .inr (0, [.ref hw, .int (nI b.2)])), (hw, .inl (cJ, 2500, .inr (.inl b.1)))]) (w2 := [(h0, .inr (2, [.ref bo, .int (nI (((p_nbS b zc).1, 2, (nI z.1)).1)), .int (nI (((p_nbS b zc).1, 2, (nI z.1)).2.1)), .int (((p_nbS b zc).1, 2, (nI z.1)).2.2), .int (nI to), .long fi])), (bo, .inr (0, [.ref hw, .int (nI b.2)])), (hw, .inl (cJ, 2500, .inr (.inl b.1)))]) (z_runV (rest := []) hx hb hml hown hts hK hN (c_Scan_refuse l D cI cJ h0 bo (p_nbS b zc) to fi 2 (nI z.1) ) kk_Scan_57 (zP.cut hP [0] rfl) (hD.sub [0] (by decide) rfl) 0 rfl rfl rfl hl.1 rfl (Nat.le_of_ble_eq_true rfl) d_Scan_nextVarint_117 (by decide) (by decide)) hP hD hS hA [0] [1, 2] [2, 0, 1] rfl rfl (by decide) (by decide) (by decide) rfl (fun H locs hP hD hS => ?_)
                  refine lv_lconst (v := 0) hx hb d_Scan_nextVarint_120 (by decide +kernel) ?_
                  exact z_lret hx hb hr hlocks hS hP hD ⟨by rw [← hR]; first | (rw [show 10 - i = 0 by omega]; rfl) | (rw [show 10 - i = (10 - (i + 1)) + 1 by omega, p_nvl, if_pos c_27, if_pos (by omega)]), by rw [← hR]; first | (rw [show 10 - i = 0 by omega]; rfl) | (rw [show 10 - i = (10 - (i + 1)) + 1 by omega, p_nvl, if_pos c_27, if_pos (by omega)])⟩ d_Scan_nextVarint_121
            · skip
              refine lv_iconst (v := nI 1) hx hb d_Scan_nextVarint_45 (by decide +kernel) ?_
              refine lv_goto (tgt := 50) hx hb d_Scan_nextVarint_46 (by decide) ?_
              refine lv_istore (lv' := [(6, .int (nI 1)), (5, .int (nI (p_nbV b zc))), (0, .ref h0), (1, .int (nI z.1)), (2, .long v), (4, .int (nI i))]) hx hb d_Scan_nextVarint_50 hl (by decide) rfl (fun ls hl => ?_)
              refine lv_iload hx hb d_Scan_nextVarint_52 (lv_at hl 5 rfl) ?_
              refine z0_le (a := i) (by omega) hx hb d_Scan_nextVarint_54 (tgt := 66) (by decide) (fun c_54 => ?_) (fun c_54 => ?_)
              · skip
                refine lv_iconst (v := nI 0) hx hb d_Scan_nextVarint_66 (by decide +kernel) ?_
                refine lv_istore (lv' := [(7, .int (nI 0)), (6, .int (nI 1)), (5, .int (nI (p_nbV b zc))), (0, .ref h0), (1, .int (nI z.1)), (2, .long v), (4, .int (nI i))]) hx hb d_Scan_nextVarint_67 hl (by decide) rfl (fun ls hl => ?_)
                refine lv_iload hx hb d_Scan_nextVarint_69 (lv_at hl 1 rfl) ?_
                refine z0_ne (a := 1) (by omega) hx hb d_Scan_nextVarint_71 (tgt := 114) (by decide) (fun _ => ?_) (fun z => absurd z (by decide))
                refine lv_aload_n hx hb d_Scan_nextVarint_114 rfl (lv_at hl 3 rfl) ?_
                refine lv_iconst (v := nI 2) hx hb d_Scan_nextVarint_115 (by decide +kernel) ?_
                refine lv_iload_n hx hb d_Scan_nextVarint_116 rfl (lv_at hl 4 rfl) ?_
                refine z_callEv (wr := [(bo, .inr (0, [.ref hw, .int (nI b.2)])), (hw, .inl (cJ, 2500, .inr (.inl b.1)))]) (w2 := [(h0, .inr (2, [.ref bo, .int (nI (((p_nbS b zc).1, 2, (nI z.1)).1)), .int (nI (((p_nbS b zc).1, 2, (nI z.1)).2.1)), .int (((p_nbS b zc).1, 2, (nI z.1)).2.2), .int (nI to), .long fi])), (bo, .inr (0, [.ref hw, .int (nI b.2)])), (hw, .inl (cJ, 2500, .inr (.inl b.1)))]) (z_runV (rest := []) hx hb hml hown hts hK hN (c_Scan_refuse l D cI cJ h0 bo (p_nbS b zc) to fi 2 (nI z.1) ) kk_Scan_57 (zP.cut hP [0] rfl) (hD.sub [0] (by decide) rfl) 0 rfl rfl rfl hl.1 rfl (Nat.le_of_ble_eq_true rfl) d_Scan_nextVarint_117 (by decide) (by decide)) hP hD hS hA [0] [1, 2] [2, 0, 1] rfl rfl (by decide) (by decide) (by decide) rfl (fun H locs hP hD hS => ?_)
                refine lv_lconst (v := 0) hx hb d_Scan_nextVarint_120 (by decide +kernel) ?_
                exact z_lret hx hb hr hlocks hS hP hD ⟨by rw [← hR]; first | (rw [show 10 - i = 0 by omega]; rfl) | (rw [show 10 - i = (10 - (i + 1)) + 1 by omega, p_nvl, if_pos c_27, if_pos (by omega)]), by rw [← hR]; first | (rw [show 10 - i = 0 by omega]; rfl) | (rw [show 10 - i = (10 - (i + 1)) + 1 by omega, p_nvl, if_pos c_27, if_pos (by omega)])⟩ d_Scan_nextVarint_121
              · skip
                refine lv_iload hx hb d_Scan_nextVarint_57 (lv_at hl 1 rfl) ?_
                refine z0_ne (a := p_nbV b zc) (by omega) hx hb d_Scan_nextVarint_59 (tgt := 66) (by decide) (fun c_59 => ?_) (fun c_59 => ?_)
                · skip
                  refine lv_iconst (v := nI 0) hx hb d_Scan_nextVarint_66 (by decide +kernel) ?_
                  refine lv_istore (lv' := [(7, .int (nI 0)), (6, .int (nI 1)), (5, .int (nI (p_nbV b zc))), (0, .ref h0), (1, .int (nI z.1)), (2, .long v), (4, .int (nI i))]) hx hb d_Scan_nextVarint_67 hl (by decide) rfl (fun ls hl => ?_)
                  refine lv_iload hx hb d_Scan_nextVarint_69 (lv_at hl 1 rfl) ?_
                  refine z0_ne (a := 1) (by omega) hx hb d_Scan_nextVarint_71 (tgt := 114) (by decide) (fun _ => ?_) (fun z => absurd z (by decide))
                  refine lv_aload_n hx hb d_Scan_nextVarint_114 rfl (lv_at hl 3 rfl) ?_
                  refine lv_iconst (v := nI 2) hx hb d_Scan_nextVarint_115 (by decide +kernel) ?_
                  refine lv_iload_n hx hb d_Scan_nextVarint_116 rfl (lv_at hl 4 rfl) ?_
                  refine z_callEv (wr := [(bo, .inr (0, [.ref hw, .int (nI b.2)])), (hw, .inl (cJ, 2500, .inr (.inl b.1)))]) (w2 := [(h0, .inr (2, [.ref bo, .int (nI (((p_nbS b zc).1, 2, (nI z.1)).1)), .int (nI (((p_nbS b zc).1, 2, (nI z.1)).2.1)), .int (((p_nbS b zc).1, 2, (nI z.1)).2.2), .int (nI to), .long fi])), (bo, .inr (0, [.ref hw, .int (nI b.2)])), (hw, .inl (cJ, 2500, .inr (.inl b.1)))]) (z_runV (rest := []) hx hb hml hown hts hK hN (c_Scan_refuse l D cI cJ h0 bo (p_nbS b zc) to fi 2 (nI z.1) ) kk_Scan_57 (zP.cut hP [0] rfl) (hD.sub [0] (by decide) rfl) 0 rfl rfl rfl hl.1 rfl (Nat.le_of_ble_eq_true rfl) d_Scan_nextVarint_117 (by decide) (by decide)) hP hD hS hA [0] [1, 2] [2, 0, 1] rfl rfl (by decide) (by decide) (by decide) rfl (fun H locs hP hD hS => ?_)
                  refine lv_lconst (v := 0) hx hb d_Scan_nextVarint_120 (by decide +kernel) ?_
                  exact z_lret hx hb hr hlocks hS hP hD ⟨by rw [← hR]; first | (rw [show 10 - i = 0 by omega]; rfl) | (rw [show 10 - i = (10 - (i + 1)) + 1 by omega, p_nvl, if_pos c_27, if_pos (by omega)]), by rw [← hR]; first | (rw [show 10 - i = 0 by omega]; rfl) | (rw [show 10 - i = (10 - (i + 1)) + 1 by omega, p_nvl, if_pos c_27, if_pos (by omega)])⟩ d_Scan_nextVarint_121
                · skip
                  refine lv_iconst (v := nI 1) hx hb d_Scan_nextVarint_62 (by decide +kernel) ?_
                  refine lv_goto (tgt := 67) hx hb d_Scan_nextVarint_63 (by decide) ?_
                  refine lv_istore (lv' := [(7, .int (nI 1)), (6, .int (nI 1)), (5, .int (nI (p_nbV b zc))), (0, .ref h0), (1, .int (nI z.1)), (2, .long v), (4, .int (nI i))]) hx hb d_Scan_nextVarint_67 hl (by decide) rfl (fun ls hl => ?_)
                  refine lv_iload hx hb d_Scan_nextVarint_69 (lv_at hl 1 rfl) ?_
                  refine z0_ne (a := 1) (by omega) hx hb d_Scan_nextVarint_71 (tgt := 114) (by decide) (fun _ => ?_) (fun z => absurd z (by decide))
                  refine lv_aload_n hx hb d_Scan_nextVarint_114 rfl (lv_at hl 3 rfl) ?_
                  refine lv_iconst (v := nI 2) hx hb d_Scan_nextVarint_115 (by decide +kernel) ?_
                  refine lv_iload_n hx hb d_Scan_nextVarint_116 rfl (lv_at hl 4 rfl) ?_
                  refine z_callEv (wr := [(bo, .inr (0, [.ref hw, .int (nI b.2)])), (hw, .inl (cJ, 2500, .inr (.inl b.1)))]) (w2 := [(h0, .inr (2, [.ref bo, .int (nI (((p_nbS b zc).1, 2, (nI z.1)).1)), .int (nI (((p_nbS b zc).1, 2, (nI z.1)).2.1)), .int (((p_nbS b zc).1, 2, (nI z.1)).2.2), .int (nI to), .long fi])), (bo, .inr (0, [.ref hw, .int (nI b.2)])), (hw, .inl (cJ, 2500, .inr (.inl b.1)))]) (z_runV (rest := []) hx hb hml hown hts hK hN (c_Scan_refuse l D cI cJ h0 bo (p_nbS b zc) to fi 2 (nI z.1) ) kk_Scan_57 (zP.cut hP [0] rfl) (hD.sub [0] (by decide) rfl) 0 rfl rfl rfl hl.1 rfl (Nat.le_of_ble_eq_true rfl) d_Scan_nextVarint_117 (by decide) (by decide)) hP hD hS hA [0] [1, 2] [2, 0, 1] rfl rfl (by decide) (by decide) (by decide) rfl (fun H locs hP hD hS => ?_)
                  refine lv_lconst (v := 0) hx hb d_Scan_nextVarint_120 (by decide +kernel) ?_
                  exact z_lret hx hb hr hlocks hS hP hD ⟨by rw [← hR]; first | (rw [show 10 - i = 0 by omega]; rfl) | (rw [show 10 - i = (10 - (i + 1)) + 1 by omega, p_nvl, if_pos c_27, if_pos (by omega)]), by rw [← hR]; first | (rw [show 10 - i = 0 by omega]; rfl) | (rw [show 10 - i = (10 - (i + 1)) + 1 by omega, p_nvl, if_pos c_27, if_pos (by omega)])⟩ d_Scan_nextVarint_121
        · skip
          have c_27 := of_decide_eq_false c_27
          refine lv_lconst (v := 0) hx hb d_Scan_nextVarint_30 (by decide +kernel) ?_
          exact z_lret hx hb hr hlocks hS hP hD ⟨by rw [← hR, show 10 - i = (10 - (i + 1)) + 1 by omega, p_nvl, if_neg c_27], by rw [← hR, show 10 - i = (10 - (i + 1)) + 1 by omega, p_nvl, if_neg c_27]⟩ d_Scan_nextVarint_31
  exact hlp10 _ 0 0 z (by omega) hz hf rfl (Nat.lt_succ_self _) _ _ hP hD hS ls (lv_sub hl [3, 2, 1, 0] rfl)

set_option maxHeartbeats 4000000 in
set_option maxRecDepth 100000 in
theorem c_Scan_longsOf (l : Launch) (D : va_G) (cI cJ : ClassId) (h0 : Nat) (bo : Nat) (z : SS) (to : Nat) (fi : Int64) (k : Nat) (pp : Nat) (hk : k ≤ 100) (hp : pp < 4) (hto : to ≤ 2000) : Ct l D (zT cI cJ) y_Scan_longsOf b_Scan_longsOf 3 (some .int) 2 45 0 0 [.ref h0, .int (nI k), .int (nI pp)] [(h0, .inr (2, [.ref bo, .int (nI z.1), .int (nI z.2.1), .int z.2.2, .int (nI to), .long fi]))] (zEq (some (.int (nI (p_lo to k pp)))) [(h0, .inr (2, [.ref bo, .int (nI z.1), .int (nI z.2.1), .int z.2.2, .int (nI to), .long fi]))]) := by
  refine Ct.ofW (by decide) (Nat.le_of_ble_eq_true rfl) ?_
  intro p e s m below meth c A ls C0 hP hD hS hl
  obtain ⟨hx, hb, hml, hown, hts, hK, hN, hr, hlocks, hA, hnm⟩ := C0
  have hl : lv_has ls 3 [(0, .ref h0), (1, .int (nI k)), (2, .int (nI pp))] := hl
  have hown : s.vm.findClass R_Scan = some m.cls := hown
  refine lv_iload_n hx hb d_Scan_longsOf_0 rfl (lv_at hl 1 rfl) ?_
  refine lv_iload_n hx hb d_Scan_longsOf_1 rfl (lv_at hl 2 rfl) ?_
  refine lv_iconst (v := nI 1) hx hb d_Scan_longsOf_2 (by decide +kernel) ?_
  refine lv_iadd hx hb d_Scan_longsOf_3 (z_i (nI_add pp 1) ?_)
  refine lv_aload_n hx hb d_Scan_longsOf_4 rfl (lv_at hl 0 rfl) ?_
  refine g_Scan_25 hx hb hts hown hK hP 0 rfl rfl d_Scan_longsOf_5 ?_
  refine z_callEi (wr := [(h0, .inr (2, [.ref bo, .int (nI z.1), .int (nI z.2.1), .int z.2.2, .int (nI to), .long fi]))]) (w2 := [(h0, .inr (2, [.ref bo, .int (nI z.1), .int (nI z.2.1), .int z.2.2, .int (nI to), .long fi]))]) (z_runSN (rest := []) hx hb hml hown hts hK hN (c_DeltaRows_partEdge l D cI cJ k (pp + 1) to (by (try dsimp only); omega) (by (try dsimp only); omega) (by (try dsimp only); omega)) kk_Scan_92 (zP.cut hP [] rfl) (hD.sub [] (by decide) rfl) rfl hl.1 rfl (Nat.le_of_ble_eq_true rfl) d_Scan_longsOf_8 (by decide) (by decide)) hP hD hS hA [] [0] [0] rfl rfl (by decide) (by decide) (by decide) rfl (fun H locs hP hD hS => ?_)
  refine lv_iload_n hx hb d_Scan_longsOf_11 rfl (lv_at hl 1 rfl) ?_
  refine lv_iload_n hx hb d_Scan_longsOf_12 rfl (lv_at hl 2 rfl) ?_
  refine lv_aload_n hx hb d_Scan_longsOf_13 rfl (lv_at hl 0 rfl) ?_
  refine g_Scan_25 hx hb hts hown hK hP 0 rfl rfl d_Scan_longsOf_14 ?_
  refine z_callEi (wr := [(h0, .inr (2, [.ref bo, .int (nI z.1), .int (nI z.2.1), .int z.2.2, .int (nI to), .long fi]))]) (w2 := [(h0, .inr (2, [.ref bo, .int (nI z.1), .int (nI z.2.1), .int z.2.2, .int (nI to), .long fi]))]) (z_runSN (rest := [.int (nI (p_pe k (pp + 1) to))]) hx hb hml hown hts hK hN (c_DeltaRows_partEdge l D cI cJ k pp to (by (try dsimp only); omega) (by (try dsimp only); omega) (by (try dsimp only); omega)) kk_Scan_92 (zP.cut hP [] rfl) (hD.sub [] (by decide) rfl) rfl hl.1 rfl (Nat.le_of_ble_eq_true rfl) d_Scan_longsOf_17 (by decide) (by decide)) hP hD hS hA [] [0] [0] rfl rfl (by decide) (by decide) (by decide) rfl (fun H locs hP hD hS => ?_)
  have hpe := p_pe_mono to k pp
  have hpe2 := p_pe_to to k (pp + 1)
  refine lv_isub hx hb d_Scan_longsOf_20 (z_i (pk_sub (a := p_pe k (pp + 1) to) (b := p_pe k pp to) (by omega)) ?_)
  exact z_iret hx hb hr hlocks hS hP hD ⟨rfl, rfl⟩ d_Scan_longsOf_21

set_option maxHeartbeats 4000000 in
set_option maxRecDepth 100000 in
theorem c_Scan_nextWidth (l : Launch) (D : va_G) (cI cJ : ClassId) (h0 : Nat) (bo : Nat) (z : SS) (to : Nat) (fi : Int64) (hw : Nat) (b : BB) (lo : Nat) (hu : b.2 ≤ 20000) (hz : z.1 ≤ b.2) (hlo : lo ≤ 16) : Ct l D (zT cI cJ) y_Scan_nextWidth b_Scan_nextWidth 4 (some .int) 4 90 0 0 [.ref h0, .int (nI lo)] [(h0, .inr (2, [.ref bo, .int (nI z.1), .int (nI z.2.1), .int z.2.2, .int (nI to), .long fi])), (bo, .inr (0, [.ref hw, .int (nI b.2)])), (hw, .inl (cJ, 2500, .inr (.inl b.1)))] (zEq (some (.int (nI (p_nbV b z)))) [(h0, .inr (2, [.ref bo, .int (nI ((p_nwS b z lo).1)), .int (nI ((p_nwS b z lo).2.1)), .int ((p_nwS b z lo).2.2), .int (nI to), .long fi])), (bo, .inr (0, [.ref hw, .int (nI b.2)])), (hw, .inl (cJ, 2500, .inr (.inl b.1)))]) := by
  refine Ct.ofW (by decide) (Nat.le_of_ble_eq_true rfl) ?_
  intro p e s m below meth c A ls C0 hP hD hS hl
  obtain ⟨hx, hb, hml, hown, hts, hK, hN, hr, hlocks, hA, hnm⟩ := C0
  have hl : lv_has ls 4 [(0, .ref h0), (1, .int (nI lo))] := hl
  have hown : s.vm.findClass R_Scan = some m.cls := hown
  have hx8 := p_nbV_le (z := z) hu
  refine lv_aload_n hx hb d_Scan_nextWidth_0 rfl (lv_at hl 0 rfl) ?_
  refine g_Scan_15 hx hb hts hown hK hP 0 rfl rfl d_Scan_nextWidth_1 ?_
  refine lv_istore_n (lv' := [(2, .int (nI z.1)), (0, .ref h0), (1, .int (nI lo))]) hx hb d_Scan_nextWidth_4 rfl hl (by decide) rfl (fun ls hl => ?_)
  refine lv_aload_n hx hb d_Scan_nextWidth_5 rfl (lv_at hl 1 rfl) ?_
  refine z_callEi (wr := []) (w2 := [(h0, .inr (2, [.ref bo, .int (nI ((p_nbS b z).1)), .int (nI ((p_nbS b z).2.1)), .int ((p_nbS b z).2.2), .int (nI to), .long fi])), (bo, .inr (0, [.ref hw, .int (nI b.2)])), (hw, .inl (cJ, 2500, .inr (.inl b.1)))]) (z_runV (rest := []) hx hb hml hown hts hK hN (c_Scan_nextByte l D cI cJ h0 bo z to fi hw b (by (try dsimp only); omega) (by (try dsimp only); omega)) kk_Scan_96 (zP.cut hP [0, 1, 2] rfl) (hD.sub [0, 1, 2] (by decide) rfl) 0 rfl rfl rfl hl.1 rfl (Nat.le_of_ble_eq_true rfl) d_Scan_nextWidth_6 (by decide) (by decide)) hP hD hS hA [0, 1, 2] [] [0, 1, 2] rfl rfl (by decide) (by decide) (by decide) rfl (fun H locs hP hD hS => ?_)
  refine lv_istore_n (lv' := [(3, .int (nI (p_nbV b z))), (2, .int (nI z.1)), (0, .ref h0), (1, .int (nI lo))]) hx hb d_Scan_nextWidth_9 rfl hl (by decide) rfl (fun ls hl => ?_)
  refine lv_iload_n hx hb d_Scan_nextWidth_10 rfl (lv_at hl 0 rfl) ?_
  refine lv_bipush (v := nI 64) hx hb d_Scan_nextWidth_11 (by decide +kernel) ?_
  refine zn_gt (a := p_nbV b z) (b := 64) (by omega) (by omega) hx hb d_Scan_nextWidth_13 (tgt := 24) (by decide) (fun c_13 => ?_) (fun c_13 => ?_)
  · skip
    refine lv_aload_n hx hb d_Scan_nextWidth_24 rfl (lv_at hl 2 rfl) ?_
    refine lv_iconst (v := nI 5) hx hb d_Scan_nextWidth_25 (by decide +kernel) ?_
    refine lv_iload_n hx hb d_Scan_nextWidth_26 rfl (lv_at hl 1 rfl) ?_
    refine z_callEv (wr := [(bo, .inr (0, [.ref hw, .int (nI b.2)])), (hw, .inl (cJ, 2500, .inr (.inl b.1)))]) (w2 := [(h0, .inr (2, [.ref bo, .int (nI (((p_nbS b z).1, 5, (nI z.1)).1)), .int (nI (((p_nbS b z).1, 5, (nI z.1)).2.1)), .int (((p_nbS b z).1, 5, (nI z.1)).2.2), .int (nI to), .long fi])), (bo, .inr (0, [.ref hw, .int (nI b.2)])), (hw, .inl (cJ, 2500, .inr (.inl b.1)))]) (z_runV (rest := []) hx hb hml hown hts hK hN (c_Scan_refuse l D cI cJ h0 bo (p_nbS b z) to fi 5 (nI z.1) ) kk_Scan_57 (zP.cut hP [0] rfl) (hD.sub [0] (by decide) rfl) 0 rfl rfl rfl hl.1 rfl (Nat.le_of_ble_eq_true rfl) d_Scan_nextWidth_27 (by decide) (by decide)) hP hD hS hA [0] [1, 2] [2, 0, 1] rfl rfl (by decide) (by decide) (by decide) rfl (fun H locs hP hD hS => ?_)
    refine lv_iload_n hx hb d_Scan_nextWidth_30 rfl (lv_at hl 0 rfl) ?_
    exact z_iret hx hb hr hlocks hS hP hD ⟨rfl, by unfold p_nwS; first | rw [if_pos (by omega)] | rw [if_neg (by omega)]⟩ d_Scan_nextWidth_31
  · skip
    refine lv_iload_n hx hb d_Scan_nextWidth_16 rfl (lv_at hl 0 rfl) ?_
    refine z0_eq (a := p_nbV b z) (by omega) hx hb d_Scan_nextWidth_17 (tgt := 30) (by decide) (fun c_17 => ?_) (fun c_17 => ?_)
    · skip
      refine lv_iload_n hx hb d_Scan_nextWidth_30 rfl (lv_at hl 0 rfl) ?_
      exact z_iret hx hb hr hlocks hS hP hD ⟨rfl, by unfold p_nwS; first | rw [if_pos (by omega)] | rw [if_neg (by omega)]⟩ d_Scan_nextWidth_31
    · skip
      refine lv_iload_n hx hb d_Scan_nextWidth_20 rfl (lv_at hl 3 rfl) ?_
      refine z0_ne (a := lo) (by omega) hx hb d_Scan_nextWidth_21 (tgt := 30) (by decide) (fun c_21 => ?_) (fun c_21 => ?_)
      · skip
        refine lv_iload_n hx hb d_Scan_nextWidth_30 rfl (lv_at hl 0 rfl) ?_
        exact z_iret hx hb hr hlocks hS hP hD ⟨rfl, by unfold p_nwS; first | rw [if_pos (by omega)] | rw [if_neg (by omega)]⟩ d_Scan_nextWidth_31
      · skip
        refine lv_aload_n hx hb d_Scan_nextWidth_24 rfl (lv_at hl 2 rfl) ?_
        refine lv_iconst (v := nI 5) hx hb d_Scan_nextWidth_25 (by decide +kernel) ?_
        refine lv_iload_n hx hb d_Scan_nextWidth_26 rfl (lv_at hl 1 rfl) ?_
        refine z_callEv (wr := [(bo, .inr (0, [.ref hw, .int (nI b.2)])), (hw, .inl (cJ, 2500, .inr (.inl b.1)))]) (w2 := [(h0, .inr (2, [.ref bo, .int (nI (((p_nbS b z).1, 5, (nI z.1)).1)), .int (nI (((p_nbS b z).1, 5, (nI z.1)).2.1)), .int (((p_nbS b z).1, 5, (nI z.1)).2.2), .int (nI to), .long fi])), (bo, .inr (0, [.ref hw, .int (nI b.2)])), (hw, .inl (cJ, 2500, .inr (.inl b.1)))]) (z_runV (rest := []) hx hb hml hown hts hK hN (c_Scan_refuse l D cI cJ h0 bo (p_nbS b z) to fi 5 (nI z.1) ) kk_Scan_57 (zP.cut hP [0] rfl) (hD.sub [0] (by decide) rfl) 0 rfl rfl rfl hl.1 rfl (Nat.le_of_ble_eq_true rfl) d_Scan_nextWidth_27 (by decide) (by decide)) hP hD hS hA [0] [1, 2] [2, 0, 1] rfl rfl (by decide) (by decide) (by decide) rfl (fun H locs hP hD hS => ?_)
        refine lv_iload_n hx hb d_Scan_nextWidth_30 rfl (lv_at hl 0 rfl) ?_
        exact z_iret hx hb hr hlocks hS hP hD ⟨rfl, by unfold p_nwS; first | rw [if_pos (by omega)] | rw [if_neg (by omega)]⟩ d_Scan_nextWidth_31

set_option maxHeartbeats 4000000 in
set_option maxRecDepth 100000 in
theorem c_Scan_passPart (l : Launch) (D : va_G) (cI cJ : ClassId) (h0 : Nat) (bo : Nat) (z : SS) (to : Nat) (fi : Int64) (hw : Nat) (b : BB) (w : Nat) (lo : Nat) (hu : b.2 ≤ 20000) (hz : z.1 ≤ b.2) (hw1 : w ≤ 255) (hlo : lo ≤ 16) : Ct l D (zT cI cJ) y_Scan_passPart b_Scan_passPart 4 none 2 48 0 0 [.ref h0, .int (nI w), .int (nI lo)] [(h0, .inr (2, [.ref bo, .int (nI z.1), .int (nI z.2.1), .int z.2.2, .int (nI to), .long fi])), (bo, .inr (0, [.ref hw, .int (nI b.2)])), (hw, .inl (cJ, 2500, .inr (.inl b.1)))] (zEq none [(h0, .inr (2, [.ref bo, .int (nI ((p_pp b z w lo).1)), .int (nI ((p_pp b z w lo).2.1)), .int ((p_pp b z w lo).2.2), .int (nI to), .long fi])), (bo, .inr (0, [.ref hw, .int (nI b.2)])), (hw, .inl (cJ, 2500, .inr (.inl b.1)))]) := by
  refine Ct.ofW (by decide) (Nat.le_of_ble_eq_true rfl) ?_
  intro p e s m below meth c A ls C0 hP hD hS hl
  obtain ⟨hx, hb, hml, hown, hts, hK, hN, hr, hlocks, hA, hnm⟩ := C0
  have hl : lv_has ls 4 [(0, .ref h0), (1, .int (nI w)), (2, .int (nI lo))] := hl
  have hown : s.vm.findClass R_Scan = some m.cls := hown
  refine lv_iload_n hx hb d_Scan_passPart_0 rfl (lv_at hl 1 rfl) ?_
  refine z_callEi (wr := [(h0, .inr (2, [.ref bo, .int (nI z.1), .int (nI z.2.1), .int z.2.2, .int (nI to), .long fi])), (bo, .inr (0, [.ref hw, .int (nI b.2)])), (hw, .inl (cJ, 2500, .inr (.inl b.1)))]) (w2 := [(h0, .inr (2, [.ref bo, .int (nI z.1), .int (nI z.2.1), .int z.2.2, .int (nI to), .long fi])), (bo, .inr (0, [.ref hw, .int (nI b.2)])), (hw, .inl (cJ, 2500, .inr (.inl b.1)))]) (z_runSN (rest := []) hx hb hml hown hts hK hN (c_DeltaRows_partBytes l D cI cJ w (by (try dsimp only); omega)) kk_Scan_100 (zP.cut hP [] rfl) (hD.sub [] (by decide) rfl) rfl hl.1 rfl (Nat.le_of_ble_eq_true rfl) d_Scan_passPart_1 (by decide) (by decide)) hP hD hS hA [] [0, 1, 2] [0, 1, 2] rfl rfl (by decide) (by decide) (by decide) rfl (fun H locs hP hD hS => ?_)
  refine lv_aload_n hx hb d_Scan_passPart_4 rfl (lv_at hl 0 rfl) ?_
  refine g_Scan_9 hx hb hts hown hK hP 0 rfl rfl d_Scan_passPart_5 ?_
  refine g_Scan_52 hx hb hts hown hK hP 1 rfl rfl d_Scan_passPart_8 ?_
  refine lv_aload_n hx hb d_Scan_passPart_11 rfl (lv_at hl 0 rfl) ?_
  refine g_Scan_15 hx hb hts hown hK hP 0 rfl rfl d_Scan_passPart_12 ?_
  refine lv_isub hx hb d_Scan_passPart_15 (z_i (pk_sub (a := b.2) (b := z.1) (by omega)) ?_)
  refine zn_le (a := w * 16 / 8) (b := b.2 - z.1) (by omega) (by omega) hx hb d_Scan_passPart_16 (tgt := 32) (by decide) (fun c_16 => ?_) (fun c_16 => ?_)
  · skip
    refine lv_iload_n hx hb d_Scan_passPart_32 rfl (lv_at hl 2 rfl) ?_
    refine lv_istore_n (lv' := [(3, .int (nI lo)), (0, .ref h0), (1, .int (nI w)), (2, .int (nI lo))]) hx hb d_Scan_passPart_33 rfl hl (by decide) rfl (fun ls hl => ?_)
    have hlp34 : ∀ (n : Nat) (i : Nat), (i ≤ 16) → (p_ppl b z w (16 - i) i = p_pp b z w lo) → 16 - i < n → ∀ (H : Heap) (locs : List Loc), va_P D classes [(h0, .inr (2, [.ref bo, .int (nI z.1), .int (nI z.2.1), .int z.2.2, .int (nI to), .long fi])), (bo, .inr (0, [.ref hw, .int (nI b.2)])), (hw, .inl (cJ, 2500, .inr (.inl b.1)))] H → va_D A [(h0, .inr (2, [.ref bo, .int (nI z.1), .int (nI z.2.1), .int z.2.2, .int (nI to), .long fi])), (bo, .inr (0, [.ref hw, .int (nI b.2)])), (hw, .inl (cJ, 2500, .inr (.inl b.1)))] → va_S A s.heap H locs → ∀ (ls : Array Slot), lv_has ls 4 [(0, .ref h0), (1, .int (nI w)), (2, .int (nI lo)), (3, .int (nI i))] → W p l e { frames := 2, cells := 0, slots := 0, locals := 48 } s m ([.ref h0, .int (nI w), .int (nI lo)] : List Value).toArray below meth c H locs 0 0 (MQ below (zQ D (zEq none [(h0, .inr (2, [.ref bo, .int (nI ((p_pp b z w lo).1)), .int (nI ((p_pp b z w lo).2.1)), .int ((p_pp b z w lo).2.2), .int (nI to), .long fi])), (bo, .inr (0, [.ref hw, .int (nI b.2)])), (hw, .inl (cJ, 2500, .inr (.inl b.1)))]) A) ([.ref h0, .int (nI w), .int (nI lo)] : List Value).toArray s 0 0 A) (F0 m 34 ls []) := by
      intro n
      induction n with
      | zero => intro i h1 hR hmu; exact absurd hmu (Nat.not_lt_zero _)
      | succ n ih =>
        intro i h1 hR hmu H locs hP hD hS ls hl
        have hiw : i * w ≤ 16 * 255 := Nat.mul_le_mul h1 hw1
        have ih34 := ih
        refine lv_iload_n hx hb d_Scan_passPart_34 rfl (lv_at hl 3 rfl) ?_
        refine lv_bipush (v := nI 16) hx hb d_Scan_passPart_35 (by decide +kernel) ?_
        refine zn_ge (a := i) (b := 16) (by omega) (by omega) hx hb d_Scan_passPart_37 (tgt := 80) (by decide) (fun c_37 => ?_) (fun c_37 => ?_)
        · skip
          refine lv_aload_n hx hb d_Scan_passPart_80 rfl (lv_at hl 0 rfl) ?_
          refine lv_dup hx hb d_Scan_passPart_81 rfl ?_
          refine g_Scan_15 hx hb hts hown hK hP 0 rfl rfl d_Scan_passPart_82 ?_
          refine lv_iload_n hx hb d_Scan_passPart_85 rfl (lv_at hl 1 rfl) ?_
          refine z_callEi (wr := [(h0, .inr (2, [.ref bo, .int (nI z.1), .int (nI z.2.1), .int z.2.2, .int (nI to), .long fi])), (bo, .inr (0, [.ref hw, .int (nI b.2)])), (hw, .inl (cJ, 2500, .inr (.inl b.1)))]) (w2 := [(h0, .inr (2, [.ref bo, .int (nI z.1), .int (nI z.2.1), .int z.2.2, .int (nI to), .long fi])), (bo, .inr (0, [.ref hw, .int (nI b.2)])), (hw, .inl (cJ, 2500, .inr (.inl b.1)))]) (z_runSN (rest := [.int (nI z.1), .ref h0]) hx hb hml hown hts hK hN (c_DeltaRows_partBytes l D cI cJ w (by (try dsimp only); omega)) kk_Scan_100 (zP.cut hP [] rfl) (hD.sub [] (by decide) rfl) rfl hl.1 rfl (Nat.le_of_ble_eq_true rfl) d_Scan_passPart_86 (by decide) (by decide)) hP hD hS hA [] [0, 1, 2] [0, 1, 2] rfl rfl (by decide) (by decide) (by decide) rfl (fun H locs hP hD hS => ?_)
          refine lv_iadd hx hb d_Scan_passPart_89 (z_i (nI_add z.1 (w * 16 / 8)) ?_)
          refine p_Scan_15 (w2 := [(h0, .inr (2, [.ref bo, .int (nI (z.1 + w * 16 / 8)), .int (nI z.2.1), .int z.2.2, .int (nI to), .long fi])), (bo, .inr (0, [.ref hw, .int (nI b.2)])), (hw, .inl (cJ, 2500, .inr (.inl b.1)))]) hx hb hts hown hK hP hD hS 0 rfl (Nat.le_of_ble_eq_true rfl) rfl d_Scan_passPart_90 (fun H locs hP hD hS => ?_)
          exact z_vret hx hb hr hlocks hS hP hD ⟨rfl, by rw [← hR, show 16 - i = 0 by omega]; rfl⟩ d_Scan_passPart_93
        · skip
          refine lv_aload_n hx hb d_Scan_passPart_40 rfl (lv_at hl 0 rfl) ?_
          refine g_Scan_9 hx hb hts hown hK hP 0 rfl rfl d_Scan_passPart_41 ?_
          refine lv_aload_n hx hb d_Scan_passPart_44 rfl (lv_at hl 0 rfl) ?_
          refine g_Scan_15 hx hb hts hown hK hP 0 rfl rfl d_Scan_passPart_45 ?_
          refine lv_bipush (v := nI 8) hx hb d_Scan_passPart_48 (by decide +kernel) ?_
          refine lv_imul hx hb d_Scan_passPart_50 (z_i (pk_mul z.1 8) ?_)
          refine lv_iload_n hx hb d_Scan_passPart_51 rfl (lv_at hl 3 rfl) ?_
          refine lv_iload_n hx hb d_Scan_passPart_52 rfl (lv_at hl 1 rfl) ?_
          refine lv_imul hx hb d_Scan_passPart_53 (z_i (pk_mul i w) ?_)
          refine lv_iadd hx hb d_Scan_passPart_54 (z_i (nI_add (z.1 * 8) (i * w)) ?_)
          refine lv_iload_n hx hb d_Scan_passPart_55 rfl (lv_at hl 1 rfl) ?_
          refine z_callEl (wr := [(h0, .inr (2, [.ref bo, .int (nI z.1), .int (nI z.2.1), .int z.2.2, .int (nI to), .long fi]))]) (w2 := [(h0, .inr (2, [.ref bo, .int (nI z.1), .int (nI z.2.1), .int z.2.2, .int (nI to), .long fi])), (bo, .inr (0, [.ref hw, .int (nI b.2)])), (hw, .inl (cJ, 2500, .inr (.inl b.1)))]) (z_runV (rest := []) hx hb hml hown hts hK hN (c_ByteRow_bitsIn l D cI cJ bo hw b (z.1 * 8 + i * w) w (by (try dsimp only); omega) (by (try dsimp only); omega)) kk_Scan_103 (zP.cut hP [1, 2] rfl) (hD.sub [1, 2] (by decide) rfl) 0 rfl rfl rfl hl.1 rfl (Nat.le_of_ble_eq_true rfl) d_Scan_passPart_56 (by decide) (by decide)) hP hD hS hA [1, 2] [0] [0, 1, 2] rfl rfl (by decide) (by decide) (by decide) rfl (fun H locs hP hD hS => ?_)
          refine lv_lconst (v := 0) hx hb d_Scan_passPart_59 (by decide +kernel) ?_
          refine zl_eq hx hb d_Scan_passPart_60 d_Scan_passPart_61 (tgt := 74) (by decide) (fun c_60 => ?_) (fun c_60 => ?_)
          · skip
            refine lv_iinc (v := nI (i + 1)) (lv' := [(3, .int (nI (i + 1))), (0, .ref h0), (1, .int (nI w)), (2, .int (nI lo))]) hx hb d_Scan_passPart_74 hl (k := 3) rfl (zinc i 1) (by decide) rfl (fun ls hl => ?_)
            refine lv_goto (tgt := 34) hx hb d_Scan_passPart_77 (by decide) ?_
            exact ih34 (i + 1) (by omega) (by rw [show 16 - i = (16 - (i + 1)) + 1 by omega, p_ppl, if_pos c_60] at hR; exact hR) (by omega) _ _ hP hD hS ls (lv_sub hl [1, 2, 3, 0] rfl)
          · skip
            refine lv_aload_n hx hb d_Scan_passPart_64 rfl (lv_at hl 0 rfl) ?_
            refine lv_iconst (v := nI 5) hx hb d_Scan_passPart_65 (by decide +kernel) ?_
            refine lv_aload_n hx hb d_Scan_passPart_66 rfl (lv_at hl 0 rfl) ?_
            refine g_Scan_15 hx hb hts hown hK hP 0 rfl rfl d_Scan_passPart_67 ?_
            refine z_callEv (wr := [(bo, .inr (0, [.ref hw, .int (nI b.2)])), (hw, .inl (cJ, 2500, .inr (.inl b.1)))]) (w2 := [(h0, .inr (2, [.ref bo, .int (nI ((z.1, 5, (nI z.1)).1)), .int (nI ((z.1, 5, (nI z.1)).2.1)), .int ((z.1, 5, (nI z.1)).2.2), .int (nI to), .long fi])), (bo, .inr (0, [.ref hw, .int (nI b.2)])), (hw, .inl (cJ, 2500, .inr (.inl b.1)))]) (z_runV (rest := []) hx hb hml hown hts hK hN (c_Scan_refuse l D cI cJ h0 bo z to fi 5 (nI z.1) ) kk_Scan_57 (zP.cut hP [0] rfl) (hD.sub [0] (by decide) rfl) 0 rfl rfl rfl hl.1 rfl (Nat.le_of_ble_eq_true rfl) d_Scan_passPart_70 (by decide) (by decide)) hP hD hS hA [0] [1, 2] [2, 0, 1] rfl rfl (by decide) (by decide) (by decide) rfl (fun H locs hP hD hS => ?_)
            exact z_vret hx hb hr hlocks hS hP hD ⟨rfl, by rw [← hR, show 16 - i = (16 - (i + 1)) + 1 by omega, p_ppl, if_neg c_60]⟩ d_Scan_passPart_73
    exact hlp34 _ lo hlo (by unfold p_pp; rw [if_neg (by omega)]) (Nat.lt_succ_self _) _ _ hP hD hS ls (lv_sub hl [1, 2, 3, 0] rfl)
  · skip
    refine lv_aload_n hx hb d_Scan_passPart_19 rfl (lv_at hl 0 rfl) ?_
    refine lv_iconst (v := nI 1) hx hb d_Scan_passPart_20 (by decide +kernel) ?_
    refine lv_aload_n hx hb d_Scan_passPart_21 rfl (lv_at hl 0 rfl) ?_
    refine g_Scan_9 hx hb hts hown hK hP 0 rfl rfl d_Scan_passPart_22 ?_
    refine g_Scan_52 hx hb hts hown hK hP 1 rfl rfl d_Scan_passPart_25 ?_
    refine z_callEv (wr := [(bo, .inr (0, [.ref hw, .int (nI b.2)])), (hw, .inl (cJ, 2500, .inr (.inl b.1)))]) (w2 := [(h0, .inr (2, [.ref bo, .int (nI ((z.1, 1, (nI b.2)).1)), .int (nI ((z.1, 1, (nI b.2)).2.1)), .int ((z.1, 1, (nI b.2)).2.2), .int (nI to), .long fi])), (bo, .inr (0, [.ref hw, .int (nI b.2)])), (hw, .inl (cJ, 2500, .inr (.inl b.1)))]) (z_runV (rest := []) hx hb hml hown hts hK hN (c_Scan_refuse l D cI cJ h0 bo z to fi 1 (nI b.2) ) kk_Scan_57 (zP.cut hP [0] rfl) (hD.sub [0] (by decide) rfl) 0 rfl rfl rfl hl.1 rfl (Nat.le_of_ble_eq_true rfl) d_Scan_passPart_28 (by decide) (by decide)) hP hD hS hA [0] [1, 2] [2, 0, 1] rfl rfl (by decide) (by decide) (by decide) rfl (fun H locs hP hD hS => ?_)
    exact z_vret hx hb hr hlocks hS hP hD ⟨rfl, by unfold p_pp; rw [if_pos (by omega)]⟩ d_Scan_passPart_31

set_option maxHeartbeats 4000000 in
set_option maxRecDepth 100000 in
theorem c_Scan_init (l : Launch) (D : va_G) (cI cJ : ClassId) (h0 : Nat) (bo : Nat)  : Ct l D (zT cI cJ) y_Scan_init b_Scan_init 2 none 1 20 0 0 [.ref h0, .ref bo] [(h0, .inr (2, [.null, .int 0, .int 0, .int 0, .int 0, .long 0]))] (zEq none [(h0, .inr (2, [.ref bo, .int (nI 0), .int (nI 0), .int (-1), .int (nI 0), .long 0]))]) := by
  refine Ct.ofW (by decide) (Nat.le_of_ble_eq_true rfl) ?_
  intro p e s m below meth c A ls C0 hP hD hS hl
  obtain ⟨hx, hb, hml, hown, hts, hK, hN, hr, hlocks, hA, hnm⟩ := C0
  have hl : lv_has ls 2 [(0, .ref h0), (1, .ref bo)] := hl
  have hown : s.vm.findClass R_Scan = some m.cls := hown
  refine lv_aload_n hx hb d_Scan_init_0 rfl (lv_at hl 0 rfl) ?_
  refine W.objInit hx hb hown (kw_Scan_3 hts) (ko_1 hts) (ko_2 hts) rfl (by rw [hml]; exact hl.1) rfl d_Scan_init_1 (by decide) (Nat.le_of_ble_eq_true rfl) ?_
  refine W.eq (g2 := F0 m 4 ls []) rfl ?_
  refine lv_aload_n hx hb d_Scan_init_4 rfl (lv_at hl 0 rfl) ?_
  refine lv_aload_n hx hb d_Scan_init_5 rfl (lv_at hl 1 rfl) ?_
  refine p_Scan_9 (w2 := [(h0, .inr (2, [.ref bo, .int 0, .int 0, .int 0, .int 0, .long 0]))]) hx hb hts hown hnm hK hP hD hS 0 rfl (Nat.le_of_ble_eq_true rfl) rfl d_Scan_init_6 (fun H locs hP hD hS => ?_)
  refine lv_aload_n hx hb d_Scan_init_9 rfl (lv_at hl 0 rfl) ?_
  refine lv_iconst (v := nI 0) hx hb d_Scan_init_10 (by decide +kernel) ?_
  refine p_Scan_15 (w2 := [(h0, .inr (2, [.ref bo, .int (nI 0), .int 0, .int 0, .int 0, .long 0]))]) hx hb hts hown hK hP hD hS 0 rfl (Nat.le_of_ble_eq_true rfl) rfl d_Scan_init_11 (fun H locs hP hD hS => ?_)
  refine lv_aload_n hx hb d_Scan_init_14 rfl (lv_at hl 0 rfl) ?_
  refine lv_iconst (v := nI 0) hx hb d_Scan_init_15 (by decide +kernel) ?_
  refine p_Scan_19 (w2 := [(h0, .inr (2, [.ref bo, .int (nI 0), .int (nI 0), .int 0, .int 0, .long 0]))]) hx hb hts hown hK hP hD hS 0 rfl (Nat.le_of_ble_eq_true rfl) rfl d_Scan_init_16 (fun H locs hP hD hS => ?_)
  refine lv_aload_n hx hb d_Scan_init_19 rfl (lv_at hl 0 rfl) ?_
  refine lv_iconst (v := (-1)) hx hb d_Scan_init_20 (by decide +kernel) ?_
  refine p_Scan_22 (w2 := [(h0, .inr (2, [.ref bo, .int (nI 0), .int (nI 0), .int (-1), .int 0, .long 0]))]) hx hb hts hown hK hP hD hS 0 rfl (Nat.le_of_ble_eq_true rfl) rfl d_Scan_init_21 (fun H locs hP hD hS => ?_)
  refine lv_aload_n hx hb d_Scan_init_24 rfl (lv_at hl 0 rfl) ?_
  refine lv_iconst (v := nI 0) hx hb d_Scan_init_25 (by decide +kernel) ?_
  refine p_Scan_25 (w2 := [(h0, .inr (2, [.ref bo, .int (nI 0), .int (nI 0), .int (-1), .int (nI 0), .long 0]))]) hx hb hts hown hK hP hD hS 0 rfl (Nat.le_of_ble_eq_true rfl) rfl d_Scan_init_26 (fun H locs hP hD hS => ?_)
  refine lv_aload_n hx hb d_Scan_init_29 rfl (lv_at hl 0 rfl) ?_
  refine lv_lconst (v := 0) hx hb d_Scan_init_30 (by decide +kernel) ?_
  refine p_Scan_28 (w2 := [(h0, .inr (2, [.ref bo, .int (nI 0), .int (nI 0), .int (-1), .int (nI 0), .long 0]))]) hx hb hts hown hK hP hD hS 0 rfl (Nat.le_of_ble_eq_true rfl) rfl d_Scan_init_31 (fun H locs hP hD hS => ?_)
  exact z_vret hx hb hr hlocks hS hP hD ⟨rfl, rfl⟩ d_Scan_init_34
end
section
/-! what the class writes -/
def p_ldl (rq : Nat → Int64) (fr : Nat) : Nat → Int64
  | 0 => rq fr - rq (fr - 1)
  | t + 1 => if rq (fr + 1 + t) - rq (fr + 1 + t - 1) < p_ldl rq fr t then rq (fr + 1 + t) - rq (fr + 1 + t - 1) else p_ldl rq fr t
/-- the least difference of a block -/
def p_ld (rq : Nat → Int64) (rc k : Nat) : Int64 := p_ldl rq (p_pe k 0 rc) (p_pe k 4 rc - p_pe k 0 rc - 1)
def p_nwl (rq : Nat → Int64) (le : Int64) (fr : Nat) : Nat → Int64
  | 0 => 0
  | t + 1 => p_nwl rq le fr t ||| (rq (fr + t) - rq (fr + t - 1) - le)
def p_inlz (x : Int32) : Nat := 32 - (if x.toBitVec.toNat = 0 then 0 else x.toBitVec.toNat.log2 + 1)
def p_nlz (x : Int64) : Nat := 64 - (if x.toBitVec.toNat = 0 then 0 else x.toBitVec.toNat.log2 + 1)
theorem p_inlz_neg {x : Int32} (h : ¬ 0 < x) (h2 : ¬ x = 0) : p_inlz x = 0 := by
  have hlt := x.toBitVec.isLt
  have h3 : 2 ^ 31 ≤ x.toBitVec.toNat := by
    apply Nat.le_of_not_lt
    intro z
    apply h
    obtain ⟨n, hn, rfl⟩ := wb_of32 x
    rw [pk_tn hn] at z
    rw [← nI_0]
    exact nI_lt (Nat.pos_of_ne_zero (fun q => h2 (by rw [q]; exact nI_0))) z
  have h4 : x.toBitVec.toNat ≠ 0 := by omega
  have h5 : x.toBitVec.toNat.log2 = 31 := (Nat.log2_eq_iff h4).mpr ⟨h3, hlt⟩
  unfold p_inlz
  rw [if_neg h4, h5]
theorem p_inlz_pos {n0 kk y : Nat} (hn0 : n0 < 2 ^ 31) (hn1 : 0 < n0) (hkk : 1 ≤ kk ∧ kk ≤ 31) (hy : y = n0 / 2 ^ (31 - kk)) (h0 : 0 < y) (hbd : y < 4) : p_inlz (nI n0) = kk - y / 2 ^ 1 := by
  have hP : 0 < 2 ^ (31 - kk) := Nat.two_pow_pos _
  have e1 := Nat.div_add_mod n0 (2 ^ (31 - kk))
  have e2 := Nat.mod_lt n0 hP
  rw [← hy] at e1
  have hne : n0 ≠ 0 := by omega
  unfold p_inlz
  rw [pk_tn (by omega), if_neg hne]
  have p1 : 2 ^ (31 - kk + 1) = 2 ^ (31 - kk) * 2 := Nat.pow_succ _ _
  have p2 : 2 ^ (31 - kk + 2) = 2 ^ (31 - kk) * 2 * 2 := by rw [Nat.pow_succ, Nat.pow_succ]
  rcases (show y = 1 ∨ y = 2 ∨ y = 3 by omega) with q | q | q
  · rw [q] at e1 ⊢
    have h5 : n0.log2 = 31 - kk := (Nat.log2_eq_iff hne).mpr ⟨by omega, by rw [p1]; omega⟩
    rw [h5]; omega
  · rw [q] at e1 ⊢
    have h5 : n0.log2 = 31 - kk + 1 := (Nat.log2_eq_iff hne).mpr ⟨by rw [p1]; omega, by rw [show 31 - kk + 1 + 1 = 31 - kk + 2 from rfl, p2]; omega⟩
    rw [h5]; omega
  · rw [q] at e1 ⊢
    have h5 : n0.log2 = 31 - kk + 1 := (Nat.log2_eq_iff hne).mpr ⟨by rw [p1]; omega, by rw [show 31 - kk + 1 + 1 = 31 - kk + 2 from rfl, p2]; omega⟩
    rw [h5]; omega
theorem log2_up {u : Nat} (h : 2 ^ 32 ≤ u) : u.log2 = (u / 2 ^ 32).log2 + 32 := by
  have hv : u / 2 ^ 32 ≠ 0 := by omega
  have hu : u ≠ 0 := by omega
  have h1 := Nat.log2_self_le hv
  have h2 := Nat.lt_log2_self (n := u / 2 ^ 32)
  refine (Nat.log2_eq_iff hu).mpr ⟨?_, ?_⟩
  · rw [Nat.pow_add]
    generalize 2 ^ (u / 2 ^ 32).log2 = P at *
    omega
  · have e3 : ∀ j : Nat, 2 ^ (j + 32 + 1) = 2 ^ (j + 1) * 2 ^ 32 := fun j => by rw [show j + 32 + 1 = (j + 1) + 32 by omega, Nat.pow_add]
    rw [e3]
    generalize 2 ^ ((u / 2 ^ 32).log2 + 1) = P at *
    omega
theorem zush32 (x : Int64) : (zushr x (nI 32)).toInt32 = nI (x.toBitVec.toNat / 2 ^ 32) := by
  obtain ⟨n, hn, rfl⟩ := wb_of x
  unfold zushr
  rw [wb_shr hn (by decide), lN_i, wb_tn hn]
theorem p_nlz_hi {x : Int64} (h : ¬ (zushr x (nI 32)).toInt32 = 0) : p_inlz ((zushr x (nI 32)).toInt32) = p_nlz x := by
  have hu := x.toBitVec.isLt
  rw [zush32] at h ⊢
  unfold p_inlz p_nlz
  have h3 : x.toBitVec.toNat / 2 ^ 32 < 2 ^ 32 := by omega
  rw [pk_tn h3]
  have h4 : x.toBitVec.toNat / 2 ^ 32 ≠ 0 := fun z => h (by rw [z]; exact nI_0)
  rw [if_neg h4, if_neg (by omega), log2_up (u := x.toBitVec.toNat) (by omega)]
  omega
theorem p_nlz_lo {x : Int64} (h : (zushr x (nI 32)).toInt32 = 0) : 32 + p_inlz x.toInt32 = p_nlz x := by
  have hu := x.toBitVec.isLt
  rw [zush32] at h
  have h3 : x.toBitVec.toNat / 2 ^ 32 < 2 ^ 32 := by omega
  have h4 : x.toBitVec.toNat / 2 ^ 32 = 0 := by
    have h5 : (nI (x.toBitVec.toNat / 2 ^ 32)).toBitVec.toNat = (0 : Int32).toBitVec.toNat := by rw [h]
    rw [pk_tn h3] at h5
    exact h5
  have h5 : x.toBitVec.toNat < 2 ^ 32 := by omega
  have h6 : x.toInt32.toBitVec.toNat = x.toBitVec.toNat := by
    have := lN_self x
    rw [this, lN_i, pk_tn h5, ← this]
  unfold p_inlz p_nlz
  rw [h6]
  by_cases h7 : x.toBitVec.toNat = 0
  · rw [if_pos h7]
  · rw [if_neg h7]
    have := (Nat.log2_lt (k := 32) h7).mpr h5
    omega
/-- the width that a part needs -/
def p_wd (rq : Nat → Int64) (rc : Nat) (le : Int64) (k p : Nat) : Nat := 64 - p_nlz (p_nwl rq le (p_pe k p rc) (p_pe k (p + 1) rc - p_pe k p rc))
def p_wpl (rq : Nat → Int64) (le : Int64) (en w : Nat) : Nat → Nat → Nat → (Nat → Int64) → (Nat → Int64)
  | 0, _, _, wd => wd
  | t + 1, i, q, wd => p_wpl rq le en w t (i + 1) (q + w) (p_setBits wd q w (if i < en then rq i - rq (i - 1) - le else 0))
def p_wp (rq : Nat → Int64) (rc : Nat) (le : Int64) (w k p : Nat) (b : BB) : BB := (p_wpl rq le (p_pe k (p + 1) rc) w 16 (p_pe k p rc) (b.2 * 8) b.1, b.2 + w * 16 / 8)
/-- the widths of a block: the bytes, and the layout's row of widths -/
def p_wbw (rq : Nat → Int64) (rc : Nat) (le : Int64) (k : Nat) : Nat → BB × (Nat → Int32) → BB × (Nat → Int32)
  | 0, x => x
  | t + 1, x => (p_add (p_wbw rq rc le k t x).1 (nI (p_wd rq rc le k t)), upd (p_wbw rq rc le k t x).2 (k * 4 + t) (nI (p_wd rq rc le k t)))
/-- the parts of a block: the bytes, and the layout's row of starts -/
def p_wbp (rq : Nat → Int64) (rc : Nat) (le : Int64) (k : Nat) : Nat → BB × (Nat → Int32) → BB × (Nat → Int32)
  | 0, x => x
  | t + 1, x => (p_wp rq rc le (p_wd rq rc le k t) k t (p_wbp rq rc le k t x).1, upd (p_wbp rq rc le k t x).2 (k * 4 + t) (nI (p_wbp rq rc le k t x).1.2))
/-- the bytes, the leasts, the widths, the starts -/
abbrev WW : Type := BB × (Nat → Int64) × (Nat → Int32) × (Nat → Int32)
def p_wb (rq : Nat → Int64) (rc k : Nat) (x : WW) : WW :=
  ((p_wbp rq rc (p_ld rq rc k) k 4 ((p_wbw rq rc (p_ld rq rc k) k 4 (p_av x.1 (p_zig (p_ld rq rc k)), x.2.2.1)).1, x.2.2.2)).1,
   vp_updL x.2.1 k (p_ld rq rc k),
   (p_wbw rq rc (p_ld rq rc k) k 4 (p_av x.1 (p_zig (p_ld rq rc k)), x.2.2.1)).2,
   (p_wbp rq rc (p_ld rq rc k) k 4 ((p_wbw rq rc (p_ld rq rc k) k 4 (p_av x.1 (p_zig (p_ld rq rc k)), x.2.2.1)).1, x.2.2.2)).2)
def p_wbs (rq : Nat → Int64) (rc : Nat) : Nat → WW → WW
  | 0, x => x
  | t + 1, x => p_wb rq rc t (p_wbs rq rc t x)
def p_write (rq : Nat → Int64) (rc : Nat) (x : WW) : WW :=
  p_wbs rq rc (p_bf rc) (if 0 < rc then p_av (p_av (x.1.1, 0) (nI rc).toInt64) (p_zig (rq 0)) else p_av (x.1.1, 0) (nI rc).toInt64, x.2)
theorem p_add_le1 {b : BB} {v : Int32} : (p_add b v).2 ≤ b.2 + 1 := by
  unfold p_add
  by_cases h1 : b.2 < 20000
  · rw [if_pos h1]; exact Nat.le_refl _
  · rw [if_neg h1]; exact Nat.le_succ _
theorem p_avl_le1 : ∀ (n : Nat) {b : BB} {v : Int64}, (p_avl n b v).2 ≤ b.2 + n + 1
  | 0, _, _ => p_add_le1
  | n + 1, b, v => by
    unfold p_avl
    by_cases h1 : v &&& (-128) = 0
    · rw [if_pos h1]; exact Nat.le_trans p_add_le1 (by omega)
    · rw [if_neg h1]
      have h2 := p_avl_le1 n (b := p_add b ((v &&& 127).toInt32 ||| nI 128)) (v := zushr v (nI 7))
      have h3 := p_add_le1 (b := b) (v := (v &&& 127).toInt32 ||| nI 128)
      omega
theorem p_av_le1 {b : BB} {v : Int64} : (p_av b v).2 ≤ b.2 + 10 := p_avl_le1 9
theorem p_wd_le (rq : Nat → Int64) (rc : Nat) (le : Int64) (k p : Nat) : p_wd rq rc le k p ≤ 64 := Nat.sub_le _ _
theorem p_wbw_le {rq : Nat → Int64} {rc : Nat} {le : Int64} {k : Nat} {x : BB × (Nat → Int32)} : ∀ t, (p_wbw rq rc le k t x).1.2 ≤ x.1.2 + t
  | 0 => Nat.le_refl _
  | t + 1 => by
    have h1 := p_wbw_le (rq := rq) (rc := rc) (le := le) (k := k) (x := x) t
    have h2 := p_add_le1 (b := (p_wbw rq rc le k t x).1) (v := nI (p_wd rq rc le k t))
    show (p_add (p_wbw rq rc le k t x).1 (nI (p_wd rq rc le k t))).2 ≤ _
    omega
theorem p_wbp_le {rq : Nat → Int64} {rc : Nat} {le : Int64} {k : Nat} {x : BB × (Nat → Int32)} : ∀ t, (p_wbp rq rc le k t x).1.2 ≤ x.1.2 + 128 * t
  | 0 => Nat.le_refl _
  | t + 1 => by
    have h1 := p_wbp_le (rq := rq) (rc := rc) (le := le) (k := k) (x := x) t
    have h2 := p_wd_le rq rc le k t
    show (p_wbp rq rc le k t x).1.2 + p_wd rq rc le k t * 16 / 8 ≤ _
    omega
theorem p_wb_le {rq : Nat → Int64} {rc k : Nat} {x : WW} : (p_wb rq rc k x).1.2 ≤ x.1.2 + 526 := by
  have h1 := p_wbp_le (rq := rq) (rc := rc) (le := p_ld rq rc k) (k := k) (x := ((p_wbw rq rc (p_ld rq rc k) k 4 (p_av x.1 (p_zig (p_ld rq rc k)), x.2.2.1)).1, x.2.2.2)) 4
  have h2 := p_wbw_le (rq := rq) (rc := rc) (le := p_ld rq rc k) (k := k) (x := (p_av x.1 (p_zig (p_ld rq rc k)), x.2.2.1)) 4
  have h3 := p_av_le1 (b := x.1) (v := p_zig (p_ld rq rc k))
  show (p_wbp rq rc (p_ld rq rc k) k 4 _).1.2 ≤ _
  dsimp only at h1 h2
  omega
theorem p_wbs_le {rq : Nat → Int64} {rc : Nat} {x : WW} : ∀ t, (p_wbs rq rc t x).1.2 ≤ x.1.2 + 526 * t
  | 0 => Nat.le_refl _
  | t + 1 => by
    have h1 := p_wbs_le (rq := rq) (rc := rc) (x := x) t
    have h2 := p_wb_le (rq := rq) (rc := rc) (k := t) (x := p_wbs rq rc t x)
    exact Nat.le_trans h2 (by omega)
theorem p_wbw_at {rq : Nat → Int64} {rc : Nat} {le : Int64} {k : Nat} {x : BB × (Nat → Int32)} : ∀ {t i : Nat}, i < t → (p_wbw rq rc le k t x).2 (k * 4 + i) = nI (p_wd rq rc le k i)
  | 0, i, h => absurd h (Nat.not_lt_zero i)
  | t + 1, i, h => by
    show upd (p_wbw rq rc le k t x).2 (k * 4 + t) (nI (p_wd rq rc le k t)) (k * 4 + i) = _
    by_cases e : i = t
    · subst e; exact pk_us
    · rw [pk_un (by omega)]; exact p_wbw_at (by omega)
theorem p_bf_le {t : Nat} (h : t ≤ 2000) : p_bf t ≤ 32 := by
  unfold p_bf
  by_cases h1 : 1 < t
  · rw [if_pos h1]; omega
  · rw [if_neg h1]; decide
theorem p_bf_in {t k : Nat} (h : k < p_bf t) : 1 < t ∧ k * 64 + 1 < t := by
  unfold p_bf at h
  by_cases h1 : 1 < t
  · rw [if_pos h1] at h; omega
  · rw [if_neg h1] at h; exact absurd h (Nat.not_lt_zero _)
end
section
set_option maxHeartbeats 4000000 in
set_option maxRecDepth 100000 in
theorem c_DeltaRows_leastDifference (l : Launch) (D : va_G) (cI cJ : ClassId) (o : Nat) (ro : Nat) (bo : Nat) (so : Nat) (la : Nat) (lb : Nat) (rc : Nat) (rq : Nat → Int64) (k : Nat) (hrc : rc ≤ 2000) (hk : k < p_bf rc) : Ct l D (zT cI cJ) y_DeltaRows_leastDifference b_DeltaRows_leastDifference 7 (some .long) 2 45 0 0 [.ref o, .int (nI k)] [(o, .inr (3, [.ref ro, .int (nI rc), .ref bo, .ref so, .ref la, .ref lb])), (ro, .inl (cJ, 2000, .inr (.inl rq)))] (zEq (some (.long (p_ld rq rc k))) [(o, .inr (3, [.ref ro, .int (nI rc), .ref bo, .ref so, .ref la, .ref lb])), (ro, .inl (cJ, 2000, .inr (.inl rq)))]) := by
  refine Ct.ofW (by decide) (Nat.le_of_ble_eq_true rfl) ?_
  intro p e s m below meth c A ls C0 hP hD hS hl
  obtain ⟨hx, hb, hml, hown, hts, hK, hN, hr, hlocks, hA, hnm⟩ := C0
  have hl : lv_has ls 7 [(0, .ref o), (1, .int (nI k))] := hl
  have hown : s.vm.findClass R_DeltaRows = some m.cls := hown
  have hk2 := p_bf_in hk
  have hk3 := p_bf_le hrc
  have e0 : p_pe k 0 rc = 1 + k * 64 := by unfold p_pe; omega
  have e4 : p_pe k 0 rc < p_pe k 4 rc := by unfold p_pe; omega
  have e5 := p_pe_to rc k 4
  refine lv_iload_n hx hb d_DeltaRows_leastDifference_0 rfl (lv_at hl 1 rfl) ?_
  refine lv_iconst (v := nI 0) hx hb d_DeltaRows_leastDifference_1 (by decide +kernel) ?_
  refine lv_aload_n hx hb d_DeltaRows_leastDifference_2 rfl (lv_at hl 0 rfl) ?_
  refine g_DeltaRows_13 hx hb hts hown hK hP 0 rfl rfl d_DeltaRows_leastDifference_3 ?_
  refine z_callEi (wr := [(o, .inr (3, [.ref ro, .int (nI rc), .ref bo, .ref so, .ref la, .ref lb])), (ro, .inl (cJ, 2000, .inr (.inl rq)))]) (w2 := [(o, .inr (3, [.ref ro, .int (nI rc), .ref bo, .ref so, .ref la, .ref lb])), (ro, .inl (cJ, 2000, .inr (.inl rq)))]) (z_runS (rest := []) hx hb hml hown hts hK hN (c_DeltaRows_partEdge l D cI cJ k 0 rc (by (try dsimp only); omega) (by (try dsimp only); omega) (by (try dsimp only); omega)) kk_DeltaRows_123 (zP.cut hP [] rfl) (hD.sub [] (by decide) rfl) rfl hl.1 rfl (Nat.le_of_ble_eq_true rfl) d_DeltaRows_leastDifference_6 (by decide) (by decide)) hP hD hS hA [] [0, 1] [0, 1] rfl rfl (by decide) (by decide) (by decide) rfl (fun H locs hP hD hS => ?_)
  refine lv_istore_n (lv' := [(2, .int (nI (p_pe k 0 rc))), (0, .ref o), (1, .int (nI k))]) hx hb d_DeltaRows_leastDifference_9 rfl hl (by decide) rfl (fun ls hl => ?_)
  refine lv_iload_n hx hb d_DeltaRows_leastDifference_10 rfl (lv_at hl 2 rfl) ?_
  refine lv_iconst (v := nI 4) hx hb d_DeltaRows_leastDifference_11 (by decide +kernel) ?_
  refine lv_aload_n hx hb d_DeltaRows_leastDifference_12 rfl (lv_at hl 1 rfl) ?_
  refine g_DeltaRows_13 hx hb hts hown hK hP 0 rfl rfl d_DeltaRows_leastDifference_13 ?_
  refine z_callEi (wr := [(o, .inr (3, [.ref ro, .int (nI rc), .ref bo, .ref so, .ref la, .ref lb])), (ro, .inl (cJ, 2000, .inr (.inl rq)))]) (w2 := [(o, .inr (3, [.ref ro, .int (nI rc), .ref bo, .ref so, .ref la, .ref lb])), (ro, .inl (cJ, 2000, .inr (.inl rq)))]) (z_runS (rest := []) hx hb hml hown hts hK hN (c_DeltaRows_partEdge l D cI cJ k 4 rc (by (try dsimp only); omega) (by (try dsimp only); omega) (by (try dsimp only); omega)) kk_DeltaRows_123 (zP.cut hP [] rfl) (hD.sub [] (by decide) rfl) rfl hl.1 rfl (Nat.le_of_ble_eq_true rfl) d_DeltaRows_leastDifference_16 (by decide) (by decide)) hP hD hS hA [] [0, 1] [0, 1] rfl rfl (by decide) (by decide) (by decide) rfl (fun H locs hP hD hS => ?_)
  refine lv_istore_n (lv' := [(3, .int (nI (p_pe k 4 rc))), (2, .int (nI (p_pe k 0 rc))), (0, .ref o), (1, .int (nI k))]) hx hb d_DeltaRows_leastDifference_19 rfl hl (by decide) rfl (fun ls hl => ?_)
  refine lv_aload_n hx hb d_DeltaRows_leastDifference_20 rfl (lv_at hl 2 rfl) ?_
  refine g_DeltaRows_9 hx hb hts hown hK hP 0 rfl rfl d_DeltaRows_leastDifference_21 ?_
  refine lv_iload_n hx hb d_DeltaRows_leastDifference_24 rfl (lv_at hl 1 rfl) ?_
  refine z_lald hx hb hK hP 1 1 rfl rfl (by omega) (by decide) d_DeltaRows_leastDifference_25 ?_
  refine lv_aload_n hx hb d_DeltaRows_leastDifference_26 rfl (lv_at hl 2 rfl) ?_
  refine g_DeltaRows_9 hx hb hts hown hK hP 0 rfl rfl d_DeltaRows_leastDifference_27 ?_
  refine lv_iload_n hx hb d_DeltaRows_leastDifference_30 rfl (lv_at hl 1 rfl) ?_
  refine lv_iconst (v := nI 1) hx hb d_DeltaRows_leastDifference_31 (by decide +kernel) ?_
  refine lv_isub hx hb d_DeltaRows_leastDifference_32 (z_i (pk_sub (a := p_pe k 0 rc) (b := 1) (by omega)) ?_)
  refine z_lald hx hb hK hP 1 1 rfl rfl (by omega) (by decide) d_DeltaRows_leastDifference_33 ?_
  refine lv_lsub hx hb d_DeltaRows_leastDifference_34 ?_
  refine lv_lstore (lv' := [(4, .long ((rq (p_pe k 0 rc)) - (rq ((p_pe k 0 rc) - 1)))), (3, .int (nI (p_pe k 4 rc))), (2, .int (nI (p_pe k 0 rc))), (0, .ref o), (1, .int (nI k))]) hx hb d_DeltaRows_leastDifference_35 hl (by decide) rfl (fun ls hl => ?_)
  refine lv_iload_n hx hb d_DeltaRows_leastDifference_37 rfl (lv_at hl 2 rfl) ?_
  refine lv_iconst (v := nI 1) hx hb d_DeltaRows_leastDifference_38 (by decide +kernel) ?_
  refine lv_iadd hx hb d_DeltaRows_leastDifference_39 (z_i (nI_add (p_pe k 0 rc) 1) ?_)
  refine lv_istore (lv' := [(6, .int (nI (p_pe k 0 rc + 1))), (4, .long ((rq (p_pe k 0 rc)) - (rq ((p_pe k 0 rc) - 1)))), (3, .int (nI (p_pe k 4 rc))), (2, .int (nI (p_pe k 0 rc))), (0, .ref o), (1, .int (nI k))]) hx hb d_DeltaRows_leastDifference_40 hl (by decide) rfl (fun ls hl => ?_)
  have hlp42 : ∀ (n : Nat) (t : Nat), (t ≤ p_pe k 4 rc - p_pe k 0 rc - 1) → p_pe k 4 rc - p_pe k 0 rc - 1 - t < n → ∀ (H : Heap) (locs : List Loc), va_P D classes [(o, .inr (3, [.ref ro, .int (nI rc), .ref bo, .ref so, .ref la, .ref lb])), (ro, .inl (cJ, 2000, .inr (.inl rq)))] H → va_D A [(o, .inr (3, [.ref ro, .int (nI rc), .ref bo, .ref so, .ref la, .ref lb])), (ro, .inl (cJ, 2000, .inr (.inl rq)))] → va_S A s.heap H locs → ∀ (ls : Array Slot), lv_has ls 7 [(0, .ref o), (2, .int (nI (p_pe k 0 rc))), (3, .int (nI (p_pe k 4 rc))), (4, .long (p_ldl rq (p_pe k 0 rc) t)), (6, .int (nI (p_pe k 0 rc + 1 + t)))] → W p l e { frames := 2, cells := 0, slots := 0, locals := 45 } s m ([.ref o, .int (nI k)] : List Value).toArray below meth c H locs 0 0 (MQ below (zQ D (zEq (some (.long (p_ld rq rc k))) [(o, .inr (3, [.ref ro, .int (nI rc), .ref bo, .ref so, .ref la, .ref lb])), (ro, .inl (cJ, 2000, .inr (.inl rq)))]) A) ([.ref o, .int (nI k)] : List Value).toArray s 0 0 A) (F0 m 42 ls []) := by
    intro n
    induction n with
    | zero => intro t h1 hmu; exact absurd hmu (Nat.not_lt_zero _)
    | succ n ih =>
      intro t h1 hmu H locs hP hD hS ls hl
      have ih42 := ih
      refine lv_iload hx hb d_DeltaRows_leastDifference_42 (lv_at hl 4 rfl) ?_
      refine lv_iload_n hx hb d_DeltaRows_leastDifference_44 rfl (lv_at hl 2 rfl) ?_
      refine zn_ge (a := p_pe k 0 rc + 1 + t) (b := p_pe k 4 rc) (by omega) (by omega) hx hb d_DeltaRows_leastDifference_45 (tgt := 78) (by decide) (fun c_45 => ?_) (fun c_45 => ?_)
      · skip
        refine lv_lload hx hb d_DeltaRows_leastDifference_78 (lv_at hl 3 rfl) ?_
        exact z_lret hx hb hr hlocks hS hP hD ⟨by unfold p_ld; rw [show p_pe k 4 rc - p_pe k 0 rc - 1 = t by omega], rfl⟩ d_DeltaRows_leastDifference_80
      · skip
        refine lv_lload hx hb d_DeltaRows_leastDifference_48 (lv_at hl 3 rfl) ?_
        refine lv_aload_n hx hb d_DeltaRows_leastDifference_50 rfl (lv_at hl 0 rfl) ?_
        refine g_DeltaRows_9 hx hb hts hown hK hP 0 rfl rfl d_DeltaRows_leastDifference_51 ?_
        refine lv_iload hx hb d_DeltaRows_leastDifference_54 (lv_at hl 4 rfl) ?_
        refine z_lald hx hb hK hP 1 1 rfl rfl (by omega) (by decide) d_DeltaRows_leastDifference_56 ?_
        refine lv_aload_n hx hb d_DeltaRows_leastDifference_57 rfl (lv_at hl 0 rfl) ?_
        refine g_DeltaRows_9 hx hb hts hown hK hP 0 rfl rfl d_DeltaRows_leastDifference_58 ?_
        refine lv_iload hx hb d_DeltaRows_leastDifference_61 (lv_at hl 4 rfl) ?_
        refine lv_iconst (v := nI 1) hx hb d_DeltaRows_leastDifference_63 (by decide +kernel) ?_
        refine lv_isub hx hb d_DeltaRows_leastDifference_64 (z_i (pk_sub (a := p_pe k 0 rc + 1 + t) (b := 1) (by omega)) ?_)
        refine z_lald hx hb hK hP 1 1 rfl rfl (by omega) (by decide) d_DeltaRows_leastDifference_65 ?_
        refine lv_lsub hx hb d_DeltaRows_leastDifference_66 ?_
        refine va_mmin_long hx hb (by rw [hml]; exact hl.1.symm) hown (kw_DeltaRows_127 hts) (km_minJ_1 hts) (km_0 hts) (km_minJ_2 hts) (by decide) (Nat.le_of_ble_eq_true rfl) (by decide) (by decide) d_DeltaRows_leastDifference_67 ?_
        refine lv_lstore (lv' := [(4, .long (if (rq (p_pe k 0 rc + 1 + t)) - (rq ((p_pe k 0 rc + 1 + t) - 1)) < p_ldl rq (p_pe k 0 rc) t then (rq (p_pe k 0 rc + 1 + t)) - (rq ((p_pe k 0 rc + 1 + t) - 1)) else p_ldl rq (p_pe k 0 rc) t)), (0, .ref o), (2, .int (nI (p_pe k 0 rc))), (3, .int (nI (p_pe k 4 rc))), (6, .int (nI (p_pe k 0 rc + 1 + t)))]) hx hb d_DeltaRows_leastDifference_70 hl (by decide) rfl (fun ls hl => ?_)
        refine lv_iinc (v := nI (p_pe k 0 rc + 1 + t + 1)) (lv' := [(6, .int (nI (p_pe k 0 rc + 1 + t + 1))), (4, .long (if (rq (p_pe k 0 rc + 1 + t)) - (rq ((p_pe k 0 rc + 1 + t) - 1)) < p_ldl rq (p_pe k 0 rc) t then (rq (p_pe k 0 rc + 1 + t)) - (rq ((p_pe k 0 rc + 1 + t) - 1)) else p_ldl rq (p_pe k 0 rc) t)), (0, .ref o), (2, .int (nI (p_pe k 0 rc))), (3, .int (nI (p_pe k 4 rc)))]) hx hb d_DeltaRows_leastDifference_72 hl (k := 4) rfl (zinc (p_pe k 0 rc + 1 + t) 1) (by decide) rfl (fun ls hl => ?_)
        refine lv_goto (tgt := 42) hx hb d_DeltaRows_leastDifference_75 (by decide) ?_
        exact ih42 (t + 1) (by omega) (by omega) _ _ hP hD hS ls (lv_sub hl [2, 3, 4, 1, 0] rfl)
  exact hlp42 _ 0 (Nat.zero_le _) (Nat.lt_succ_self _) _ _ hP hD hS ls (lv_sub hl [4, 3, 2, 1, 0] rfl)

set_option maxHeartbeats 4000000 in
set_option maxRecDepth 100000 in
theorem c_Integer_numberOfLeadingZeros (l : Launch) (D : va_G) (cI cJ : ClassId) (x : Int32)  : Ct l D (zT cI cJ) y_Integer_numberOfLeadingZeros b_Integer_numberOfLeadingZeros 2 (some .int) 0 0 0 0 [.int x] [] (zEq (some (.int (nI (p_inlz x)))) []) := by
  refine Ct.ofW (by decide) (Nat.le_of_ble_eq_true rfl) ?_
  intro p e s m below meth c A ls C0 hP hD hS hl
  obtain ⟨hx, hb, hml, hown, hts, hK, hN, hr, hlocks, hA, hnm⟩ := C0
  have hl : lv_has ls 2 [(0, .int x)] := hl
  have hown : s.vm.findClass R_Integer = some m.cls := hown
  refine lv_iload_n hx hb d_Integer_numberOfLeadingZeros_0 rfl (lv_at hl 0 rfl) ?_
  refine lv_if_gt (tgt := 15) hx hb d_Integer_numberOfLeadingZeros_1 (by decide) (fun c_1 => ?_) (fun c_1 => ?_)
  · skip
    obtain ⟨n0, hn0, rfl⟩ := nI_of (x := x) (fun z => absurd (Int32.lt_trans c_1 z) (by simp))
    have hn1 : 0 < n0 := Nat.pos_of_ne_zero (fun z => by rw [z] at c_1; exact absurd c_1 (by decide))
    refine lv_bipush (v := nI 31) hx hb d_Integer_numberOfLeadingZeros_15 (by decide +kernel) ?_
    refine lv_istore_n (lv' := [(1, .int (nI 31)), (0, .int (nI n0))]) hx hb d_Integer_numberOfLeadingZeros_17 rfl hl (by decide) rfl (fun ls hl => ?_)
    have hj33 : ∀ (kk : Nat) (y : Nat), (15 ≤ kk ∧ kk ≤ 31) → (y = n0 / 2 ^ (31 - kk)) → (0 < y) → (y < 65536) → ∀ (H : Heap) (locs : List Loc), va_P D classes [] H → va_D A [] → va_S A s.heap H locs → ∀ (ls : Array Slot), lv_has ls 2 [(0, .int (nI y)), (1, .int (nI kk))] → W p l e { frames := 0, cells := 0, slots := 0, locals := 0 } s m ([.int (nI n0)] : List Value).toArray below meth c H locs 0 0 (MQ below (zQ D (zEq (some (.int (nI (p_inlz (nI n0))))) []) A) ([.int (nI n0)] : List Value).toArray s 0 0 A) (F0 m 33 ls []) := by
      intro kk y hkk hy h0 hbd H locs hP hD hS ls hl
      have hj48 : ∀ (kk : Nat) (y : Nat), (7 ≤ kk ∧ kk ≤ 31) → (y = n0 / 2 ^ (31 - kk)) → (0 < y) → (y < 256) → ∀ (H : Heap) (locs : List Loc), va_P D classes [] H → va_D A [] → va_S A s.heap H locs → ∀ (ls : Array Slot), lv_has ls 2 [(0, .int (nI y)), (1, .int (nI kk))] → W p l e { frames := 0, cells := 0, slots := 0, locals := 0 } s m ([.int (nI n0)] : List Value).toArray below meth c H locs 0 0 (MQ below (zQ D (zEq (some (.int (nI (p_inlz (nI n0))))) []) A) ([.int (nI n0)] : List Value).toArray s 0 0 A) (F0 m 48 ls []) := by
        intro kk y hkk hy h0 hbd H locs hP hD hS ls hl
        have hj61 : ∀ (kk : Nat) (y : Nat), (3 ≤ kk ∧ kk ≤ 31) → (y = n0 / 2 ^ (31 - kk)) → (0 < y) → (y < 16) → ∀ (H : Heap) (locs : List Loc), va_P D classes [] H → va_D A [] → va_S A s.heap H locs → ∀ (ls : Array Slot), lv_has ls 2 [(0, .int (nI y)), (1, .int (nI kk))] → W p l e { frames := 0, cells := 0, slots := 0, locals := 0 } s m ([.int (nI n0)] : List Value).toArray below meth c H locs 0 0 (MQ below (zQ D (zEq (some (.int (nI (p_inlz (nI n0))))) []) A) ([.int (nI n0)] : List Value).toArray s 0 0 A) (F0 m 61 ls []) := by
          intro kk y hkk hy h0 hbd H locs hP hD hS ls hl
          have hj73 : ∀ (kk : Nat) (y : Nat), (1 ≤ kk ∧ kk ≤ 31) → (y = n0 / 2 ^ (31 - kk)) → (0 < y) → (y < 4) → ∀ (H : Heap) (locs : List Loc), va_P D classes [] H → va_D A [] → va_S A s.heap H locs → ∀ (ls : Array Slot), lv_has ls 2 [(0, .int (nI y)), (1, .int (nI kk))] → W p l e { frames := 0, cells := 0, slots := 0, locals := 0 } s m ([.int (nI n0)] : List Value).toArray below meth c H locs 0 0 (MQ below (zQ D (zEq (some (.int (nI (p_inlz (nI n0))))) []) A) ([.int (nI n0)] : List Value).toArray s 0 0 A) (F0 m 73 ls []) := by
            intro kk y hkk hy h0 hbd H locs hP hD hS ls hl
            refine lv_iload_n hx hb d_Integer_numberOfLeadingZeros_73 rfl (lv_at hl 1 rfl) ?_
            refine lv_iload_n hx hb d_Integer_numberOfLeadingZeros_74 rfl (lv_at hl 0 rfl) ?_
            refine lv_iconst (v := nI 1) hx hb d_Integer_numberOfLeadingZeros_75 (by decide +kernel) ?_
            refine lv_iushr (v := nI (y / 2 ^ 1)) hx hb d_Integer_numberOfLeadingZeros_76 (pk_ushrN (n := y) (by omega) (nI 1) 1 (by decide +kernel)) ?_
            refine lv_isub hx hb d_Integer_numberOfLeadingZeros_77 (z_i (pk_sub (a := kk) (b := y / 2 ^ 1) (by omega)) ?_)
            exact z_iret hx hb hr hlocks hS hP hD ⟨by rw [p_inlz_pos hn0 hn1 hkk hy h0 hbd], rfl⟩ d_Integer_numberOfLeadingZeros_78
          refine lv_iload_n hx hb d_Integer_numberOfLeadingZeros_61 rfl (lv_at hl 0 rfl) ?_
          refine lv_iconst (v := nI 4) hx hb d_Integer_numberOfLeadingZeros_62 (by decide +kernel) ?_
          refine zn_lt (a := y) (b := 4) (by omega) (by omega) hx hb d_Integer_numberOfLeadingZeros_63 (tgt := 73) (by decide) (fun c_63 => ?_) (fun c_63 => ?_)
          · skip
            exact hj73 kk y (by omega) (by first | exact hy | (rw [hy, Nat.div_div_eq_div_mul, ← Nat.pow_add]; congr 2; omega)) (by omega) (by omega) _ _ hP hD hS ls (lv_sub hl [0, 1] rfl)
          · skip
            refine lv_iinc (v := nI (kk - 2)) (lv' := [(1, .int (nI (kk - 2))), (0, .int (nI y))]) hx hb d_Integer_numberOfLeadingZeros_66 hl (k := 1) rfl (zdec (a := kk) (k := 2) (by omega)) (by decide) rfl (fun ls hl => ?_)
            refine lv_iload_n hx hb d_Integer_numberOfLeadingZeros_69 rfl (lv_at hl 1 rfl) ?_
            refine lv_iconst (v := nI 2) hx hb d_Integer_numberOfLeadingZeros_70 (by decide +kernel) ?_
            refine lv_iushr (v := nI (y / 2 ^ 2)) hx hb d_Integer_numberOfLeadingZeros_71 (pk_ushrN (n := y) (by omega) (nI 2) 2 (by decide +kernel)) ?_
            refine lv_istore_n (lv' := [(0, .int (nI (y / 2 ^ 2))), (1, .int (nI (kk - 2)))]) hx hb d_Integer_numberOfLeadingZeros_72 rfl hl (by decide) rfl (fun ls hl => ?_)
            exact hj73 (kk - 2) (y / 2 ^ 2) (by omega) (by first | exact hy | (rw [hy, Nat.div_div_eq_div_mul, ← Nat.pow_add]; congr 2; omega)) (by omega) (by omega) _ _ hP hD hS ls (lv_sub hl [0, 1] rfl)
        refine lv_iload_n hx hb d_Integer_numberOfLeadingZeros_48 rfl (lv_at hl 0 rfl) ?_
        refine lv_bipush (v := nI 16) hx hb d_Integer_numberOfLeadingZeros_49 (by decide +kernel) ?_
        refine zn_lt (a := y) (b := 16) (by omega) (by omega) hx hb d_Integer_numberOfLeadingZeros_51 (tgt := 61) (by decide) (fun c_51 => ?_) (fun c_51 => ?_)
        · skip
          exact hj61 kk y (by omega) (by first | exact hy | (rw [hy, Nat.div_div_eq_div_mul, ← Nat.pow_add]; congr 2; omega)) (by omega) (by omega) _ _ hP hD hS ls (lv_sub hl [0, 1] rfl)
        · skip
          refine lv_iinc (v := nI (kk - 4)) (lv' := [(1, .int (nI (kk - 4))), (0, .int (nI y))]) hx hb d_Integer_numberOfLeadingZeros_54 hl (k := 1) rfl (zdec (a := kk) (k := 4) (by omega)) (by decide) rfl (fun ls hl => ?_)
          refine lv_iload_n hx hb d_Integer_numberOfLeadingZeros_57 rfl (lv_at hl 1 rfl) ?_
          refine lv_iconst (v := nI 4) hx hb d_Integer_numberOfLeadingZeros_58 (by decide +kernel) ?_
          refine lv_iushr (v := nI (y / 2 ^ 4)) hx hb d_Integer_numberOfLeadingZeros_59 (pk_ushrN (n := y) (by omega) (nI 4) 4 (by decide +kernel)) ?_
          refine lv_istore_n (lv' := [(0, .int (nI (y / 2 ^ 4))), (1, .int (nI (kk - 4)))]) hx hb d_Integer_numberOfLeadingZeros_60 rfl hl (by decide) rfl (fun ls hl => ?_)
          exact hj61 (kk - 4) (y / 2 ^ 4) (by omega) (by first | exact hy | (rw [hy, Nat.div_div_eq_div_mul, ← Nat.pow_add]; congr 2; omega)) (by omega) (by omega) _ _ hP hD hS ls (lv_sub hl [0, 1] rfl)
      refine lv_iload_n hx hb d_Integer_numberOfLeadingZeros_33 rfl (lv_at hl 0 rfl) ?_
      refine lv_sipush (v := nI 256) hx hb d_Integer_numberOfLeadingZeros_34 (by decide +kernel) ?_
      refine zn_lt (a := y) (b := 256) (by omega) (by omega) hx hb d_Integer_numberOfLeadingZeros_37 (tgt := 48) (by decide) (fun c_37 => ?_) (fun c_37 => ?_)
      · skip
        exact hj48 kk y (by omega) (by first | exact hy | (rw [hy, Nat.div_div_eq_div_mul, ← Nat.pow_add]; congr 2; omega)) (by omega) (by omega) _ _ hP hD hS ls (lv_sub hl [0, 1] rfl)
      · skip
        refine lv_iinc (v := nI (kk - 8)) (lv' := [(1, .int (nI (kk - 8))), (0, .int (nI y))]) hx hb d_Integer_numberOfLeadingZeros_40 hl (k := 1) rfl (zdec (a := kk) (k := 8) (by omega)) (by decide) rfl (fun ls hl => ?_)
        refine lv_iload_n hx hb d_Integer_numberOfLeadingZeros_43 rfl (lv_at hl 1 rfl) ?_
        refine lv_bipush (v := nI 8) hx hb d_Integer_numberOfLeadingZeros_44 (by decide +kernel) ?_
        refine lv_iushr (v := nI (y / 2 ^ 8)) hx hb d_Integer_numberOfLeadingZeros_46 (pk_ushrN (n := y) (by omega) (nI 8) 8 (by decide +kernel)) ?_
        refine lv_istore_n (lv' := [(0, .int (nI (y / 2 ^ 8))), (1, .int (nI (kk - 8)))]) hx hb d_Integer_numberOfLeadingZeros_47 rfl hl (by decide) rfl (fun ls hl => ?_)
        exact hj48 (kk - 8) (y / 2 ^ 8) (by omega) (by first | exact hy | (rw [hy, Nat.div_div_eq_div_mul, ← Nat.pow_add]; congr 2; omega)) (by omega) (by omega) _ _ hP hD hS ls (lv_sub hl [0, 1] rfl)
    refine lv_iload_n hx hb d_Integer_numberOfLeadingZeros_18 rfl (lv_at hl 1 rfl) ?_
    refine lv_ldcw (v := nI 65536) hx hb hown (kc_Integer_264 hts) d_Integer_numberOfLeadingZeros_19 ?_
    refine zn_lt (a := n0) (b := 65536) (by omega) (by omega) hx hb d_Integer_numberOfLeadingZeros_22 (tgt := 33) (by decide) (fun c_22 => ?_) (fun c_22 => ?_)
    · skip
      exact hj33 31 n0 (by omega) (by first | rfl | (rw [Nat.sub_self, Nat.pow_zero, Nat.div_one])) (by omega) (by omega) _ _ hP hD hS ls (lv_sub hl [1, 0] rfl)
    · skip
      refine lv_iinc (v := nI (31 - 16)) (lv' := [(1, .int (nI (31 - 16))), (0, .int (nI n0))]) hx hb d_Integer_numberOfLeadingZeros_25 hl (k := 0) rfl (zdec (a := 31) (k := 16) (by omega)) (by decide) rfl (fun ls hl => ?_)
      refine lv_iload_n hx hb d_Integer_numberOfLeadingZeros_28 rfl (lv_at hl 1 rfl) ?_
      refine lv_bipush (v := nI 16) hx hb d_Integer_numberOfLeadingZeros_29 (by decide +kernel) ?_
      refine lv_iushr (v := nI (n0 / 2 ^ 16)) hx hb d_Integer_numberOfLeadingZeros_31 (pk_ushrN (n := n0) (by omega) (nI 16) 16 (by decide +kernel)) ?_
      refine lv_istore_n (lv' := [(0, .int (nI (n0 / 2 ^ 16))), (1, .int (nI (31 - 16)))]) hx hb d_Integer_numberOfLeadingZeros_32 rfl hl (by decide) rfl (fun ls hl => ?_)
      exact hj33 (31 - 16) (n0 / 2 ^ 16) (by omega) (by first | rfl | (rw [Nat.sub_self, Nat.pow_zero, Nat.div_one])) (by omega) (by omega) _ _ hP hD hS ls (lv_sub hl [0, 1] rfl)
  · skip
    refine lv_iload_n hx hb d_Integer_numberOfLeadingZeros_4 rfl (lv_at hl 0 rfl) ?_
    refine lv_if_ne (tgt := 13) hx hb d_Integer_numberOfLeadingZeros_5 (by decide) (fun c_5 => ?_) (fun c_5 => ?_)
    · skip
      refine lv_iconst (v := nI 0) hx hb d_Integer_numberOfLeadingZeros_13 (by decide +kernel) ?_
      exact z_iret hx hb hr hlocks hS hP hD ⟨by first | (rw [c_5]; rfl) | (rw [p_inlz_neg c_1 c_5]), rfl⟩ d_Integer_numberOfLeadingZeros_14
    · skip
      refine lv_bipush (v := nI 32) hx hb d_Integer_numberOfLeadingZeros_8 (by decide +kernel) ?_
      refine lv_goto (tgt := 14) hx hb d_Integer_numberOfLeadingZeros_10 (by decide) ?_
      exact z_iret hx hb hr hlocks hS hP hD ⟨by first | (rw [c_5]; rfl) | (rw [p_inlz_neg c_1 c_5]), rfl⟩ d_Integer_numberOfLeadingZeros_14

set_option maxHeartbeats 4000000 in
set_option maxRecDepth 100000 in
theorem c_Long_numberOfLeadingZeros (l : Launch) (D : va_G) (cI cJ : ClassId) (x : Int64)  : Ct l D (zT cI cJ) y_Long_numberOfLeadingZeros b_Long_numberOfLeadingZeros 3 (some .int) 1 21 0 0 [.long x] [] (zEq (some (.int (nI (p_nlz x)))) []) := by
  refine Ct.ofW (by decide) (Nat.le_of_ble_eq_true rfl) ?_
  intro p e s m below meth c A ls C0 hP hD hS hl
  obtain ⟨hx, hb, hml, hown, hts, hK, hN, hr, hlocks, hA, hnm⟩ := C0
  have hl : lv_has ls 3 [(0, .long x)] := hl
  have hown : s.vm.findClass R_Long = some m.cls := hown
  refine lv_lload_n hx hb d_Long_numberOfLeadingZeros_0 rfl (lv_at hl 0 rfl) ?_
  refine lv_bipush (v := nI 32) hx hb d_Long_numberOfLeadingZeros_1 (by decide +kernel) ?_
  refine lv_lushr (v := zushr x (nI 32)) hx hb d_Long_numberOfLeadingZeros_3 rfl ?_
  refine lv_l2i (v := (zushr x (nI 32)).toInt32) hx hb d_Long_numberOfLeadingZeros_4 rfl ?_
  refine lv_istore_n (lv' := [(2, .int ((zushr x (nI 32)).toInt32)), (0, .long x)]) hx hb d_Long_numberOfLeadingZeros_5 rfl hl (by decide) rfl (fun ls hl => ?_)
  refine lv_iload_n hx hb d_Long_numberOfLeadingZeros_6 rfl (lv_at hl 0 rfl) ?_
  refine lv_if_ne (tgt := 21) hx hb d_Long_numberOfLeadingZeros_7 (by decide) (fun c_7 => ?_) (fun c_7 => ?_)
  · skip
    refine lv_iload_n hx hb d_Long_numberOfLeadingZeros_21 rfl (lv_at hl 0 rfl) ?_
    refine z_callEi (wr := []) (w2 := []) (z_runS (rest := []) hx hb hml hown hts hK hN (c_Integer_numberOfLeadingZeros l D cI cJ ((zushr x (nI 32)).toInt32) ) kk_Long_308 (zP.cut hP [] rfl) (hD.sub [] (by decide) rfl) rfl hl.1 rfl (Nat.le_of_ble_eq_true rfl) d_Long_numberOfLeadingZeros_22 (by decide) (by decide)) hP hD hS hA [] [] [] rfl rfl (by decide) (by decide) (by decide) rfl (fun H locs hP hD hS => ?_)
    exact z_iret hx hb hr hlocks hS hP hD ⟨by first | rw [p_nlz_hi c_7] | rw [p_nlz_lo c_7], rfl⟩ d_Long_numberOfLeadingZeros_25
  · skip
    refine lv_bipush (v := nI 32) hx hb d_Long_numberOfLeadingZeros_10 (by decide +kernel) ?_
    refine lv_lload_n hx hb d_Long_numberOfLeadingZeros_12 rfl (lv_at hl 1 rfl) ?_
    refine lv_l2i (v := x.toInt32) hx hb d_Long_numberOfLeadingZeros_13 rfl ?_
    refine z_callEi (wr := []) (w2 := []) (z_runS (rest := [.int (nI 32)]) hx hb hml hown hts hK hN (c_Integer_numberOfLeadingZeros l D cI cJ x.toInt32 ) kk_Long_308 (zP.cut hP [] rfl) (hD.sub [] (by decide) rfl) rfl hl.1 rfl (Nat.le_of_ble_eq_true rfl) d_Long_numberOfLeadingZeros_14 (by decide) (by decide)) hP hD hS hA [] [] [] rfl rfl (by decide) (by decide) (by decide) rfl (fun H locs hP hD hS => ?_)
    refine lv_iadd hx hb d_Long_numberOfLeadingZeros_17 (z_i (nI_add 32 (p_inlz x.toInt32)) ?_)
    refine lv_goto (tgt := 25) hx hb d_Long_numberOfLeadingZeros_18 (by decide) ?_
    exact z_iret hx hb hr hlocks hS hP hD ⟨by first | rw [p_nlz_hi c_7] | rw [p_nlz_lo c_7], rfl⟩ d_Long_numberOfLeadingZeros_25

set_option maxHeartbeats 4000000 in
set_option maxRecDepth 100000 in
theorem c_DeltaRows_neededWidth (l : Launch) (D : va_G) (cI cJ : ClassId) (o : Nat) (ro : Nat) (bo : Nat) (so : Nat) (la : Nat) (lb : Nat) (rc : Nat) (rq : Nat → Int64) (hl1 : Nat) (hi1 : Nat) (hs1 : Nat) (bc : Nat) (le : Nat → Int64) (lv : Int64) (k : Nat) (pp : Nat) (hrc : rc ≤ 2000) (hk : k < p_bf rc) (hp : pp < 4) (hle : le k = lv) : Ct l D (zT cI cJ) y_DeltaRows_neededWidth b_DeltaRows_neededWidth 9 (some .int) 2 45 0 0 [.ref o, .int (nI k), .int (nI pp)] [(o, .inr (3, [.ref ro, .int (nI rc), .ref bo, .ref so, .ref la, .ref lb])), (ro, .inl (cJ, 2000, .inr (.inl rq))), (la, .inr (1, [.int (nI bc), .ref hl1, .ref hi1, .ref hs1])), (hl1, .inl (cJ, 32, .inr (.inl le)))] (zEq (some (.int (nI (p_wd rq rc lv k pp)))) [(o, .inr (3, [.ref ro, .int (nI rc), .ref bo, .ref so, .ref la, .ref lb])), (ro, .inl (cJ, 2000, .inr (.inl rq))), (la, .inr (1, [.int (nI bc), .ref hl1, .ref hi1, .ref hs1])), (hl1, .inl (cJ, 32, .inr (.inl le)))]) := by
  refine Ct.ofW (by decide) (Nat.le_of_ble_eq_true rfl) ?_
  intro p e s m below meth c A ls C0 hP hD hS hl
  obtain ⟨hx, hb, hml, hown, hts, hK, hN, hr, hlocks, hA, hnm⟩ := C0
  have hl : lv_has ls 9 [(0, .ref o), (1, .int (nI k)), (2, .int (nI pp))] := hl
  have hown : s.vm.findClass R_DeltaRows = some m.cls := hown
  have hk2 := p_bf_in hk
  have hk3 := p_bf_le hrc
  have e0 := p_pe_mono rc k pp
  have e1 : 1 ≤ p_pe k pp rc := by unfold p_pe; omega
  have e5 := p_pe_to rc k (pp + 1)
  have e6 : ∀ x, p_nlz x ≤ 64 := fun x => Nat.sub_le _ _
  refine lv_aload_n hx hb d_DeltaRows_neededWidth_0 rfl (lv_at hl 0 rfl) ?_
  refine g_DeltaRows_36 hx hb hts hown hK hP 0 rfl rfl d_DeltaRows_neededWidth_1 ?_
  refine g_DeltaRows_98 hx hb hts hown hK hP 2 rfl rfl d_DeltaRows_neededWidth_4 ?_
  refine lv_iload_n hx hb d_DeltaRows_neededWidth_7 rfl (lv_at hl 1 rfl) ?_
  refine z_lald hx hb hK hP 3 1 rfl rfl (by omega) (by decide) d_DeltaRows_neededWidth_8 ?_
  refine z_l hle ?_
  refine lv_lstore_n (lv' := [(3, .long lv), (0, .ref o), (1, .int (nI k)), (2, .int (nI pp))]) hx hb d_DeltaRows_neededWidth_9 rfl hl (by decide) rfl (fun ls hl => ?_)
  refine lv_iload_n hx hb d_DeltaRows_neededWidth_10 rfl (lv_at hl 2 rfl) ?_
  refine lv_iload_n hx hb d_DeltaRows_neededWidth_11 rfl (lv_at hl 3 rfl) ?_
  refine lv_iconst (v := nI 1) hx hb d_DeltaRows_neededWidth_12 (by decide +kernel) ?_
  refine lv_iadd hx hb d_DeltaRows_neededWidth_13 (z_i (nI_add pp 1) ?_)
  refine lv_aload_n hx hb d_DeltaRows_neededWidth_14 rfl (lv_at hl 1 rfl) ?_
  refine g_DeltaRows_13 hx hb hts hown hK hP 0 rfl rfl d_DeltaRows_neededWidth_15 ?_
  refine z_callEi (wr := [(o, .inr (3, [.ref ro, .int (nI rc), .ref bo, .ref so, .ref la, .ref lb])), (ro, .inl (cJ, 2000, .inr (.inl rq))), (la, .inr (1, [.int (nI bc), .ref hl1, .ref hi1, .ref hs1])), (hl1, .inl (cJ, 32, .inr (.inl le)))]) (w2 := [(o, .inr (3, [.ref ro, .int (nI rc), .ref bo, .ref so, .ref la, .ref lb])), (ro, .inl (cJ, 2000, .inr (.inl rq))), (la, .inr (1, [.int (nI bc), .ref hl1, .ref hi1, .ref hs1])), (hl1, .inl (cJ, 32, .inr (.inl le)))]) (z_runS (rest := []) hx hb hml hown hts hK hN (c_DeltaRows_partEdge l D cI cJ k (pp + 1) rc (by (try dsimp only); omega) (by (try dsimp only); omega) (by (try dsimp only); omega)) kk_DeltaRows_123 (zP.cut hP [] rfl) (hD.sub [] (by decide) rfl) rfl hl.1 rfl (Nat.le_of_ble_eq_true rfl) d_DeltaRows_neededWidth_18 (by decide) (by decide)) hP hD hS hA [] [0, 1, 2, 3] [0, 1, 2, 3] rfl rfl (by decide) (by decide) (by decide) rfl (fun H locs hP hD hS => ?_)
  refine lv_istore (lv' := [(5, .int (nI (p_pe k (pp + 1) rc))), (3, .long lv), (0, .ref o), (1, .int (nI k)), (2, .int (nI pp))]) hx hb d_DeltaRows_neededWidth_21 hl (by decide) rfl (fun ls hl => ?_)
  refine lv_lconst (v := 0) hx hb d_DeltaRows_neededWidth_23 (by decide +kernel) ?_
  refine lv_lstore (lv' := [(6, .long 0), (5, .int (nI (p_pe k (pp + 1) rc))), (3, .long lv), (0, .ref o), (1, .int (nI k)), (2, .int (nI pp))]) hx hb d_DeltaRows_neededWidth_24 hl (by decide) rfl (fun ls hl => ?_)
  refine lv_iload_n hx hb d_DeltaRows_neededWidth_26 rfl (lv_at hl 4 rfl) ?_
  refine lv_iload_n hx hb d_DeltaRows_neededWidth_27 rfl (lv_at hl 5 rfl) ?_
  refine lv_aload_n hx hb d_DeltaRows_neededWidth_28 rfl (lv_at hl 3 rfl) ?_
  refine g_DeltaRows_13 hx hb hts hown hK hP 0 rfl rfl d_DeltaRows_neededWidth_29 ?_
  refine z_callEi (wr := [(o, .inr (3, [.ref ro, .int (nI rc), .ref bo, .ref so, .ref la, .ref lb])), (ro, .inl (cJ, 2000, .inr (.inl rq))), (la, .inr (1, [.int (nI bc), .ref hl1, .ref hi1, .ref hs1])), (hl1, .inl (cJ, 32, .inr (.inl le)))]) (w2 := [(o, .inr (3, [.ref ro, .int (nI rc), .ref bo, .ref so, .ref la, .ref lb])), (ro, .inl (cJ, 2000, .inr (.inl rq))), (la, .inr (1, [.int (nI bc), .ref hl1, .ref hi1, .ref hs1])), (hl1, .inl (cJ, 32, .inr (.inl le)))]) (z_runS (rest := []) hx hb hml hown hts hK hN (c_DeltaRows_partEdge l D cI cJ k pp rc (by (try dsimp only); omega) (by (try dsimp only); omega) (by (try dsimp only); omega)) kk_DeltaRows_123 (zP.cut hP [] rfl) (hD.sub [] (by decide) rfl) rfl hl.1 rfl (Nat.le_of_ble_eq_true rfl) d_DeltaRows_neededWidth_32 (by decide) (by decide)) hP hD hS hA [] [0, 1, 2, 3] [0, 1, 2, 3] rfl rfl (by decide) (by decide) (by decide) rfl (fun H locs hP hD hS => ?_)
  refine lv_istore (lv' := [(8, .int (nI (p_pe k pp rc))), (6, .long 0), (5, .int (nI (p_pe k (pp + 1) rc))), (3, .long lv), (0, .ref o), (1, .int (nI k)), (2, .int (nI pp))]) hx hb d_DeltaRows_neededWidth_35 hl (by decide) rfl (fun ls hl => ?_)
  have hlp37 : ∀ (n : Nat) (t : Nat), (t ≤ p_pe k (pp + 1) rc - p_pe k pp rc) → p_pe k (pp + 1) rc - p_pe k pp rc - t < n → ∀ (H : Heap) (locs : List Loc), va_P D classes [(o, .inr (3, [.ref ro, .int (nI rc), .ref bo, .ref so, .ref la, .ref lb])), (ro, .inl (cJ, 2000, .inr (.inl rq))), (la, .inr (1, [.int (nI bc), .ref hl1, .ref hi1, .ref hs1])), (hl1, .inl (cJ, 32, .inr (.inl le)))] H → va_D A [(o, .inr (3, [.ref ro, .int (nI rc), .ref bo, .ref so, .ref la, .ref lb])), (ro, .inl (cJ, 2000, .inr (.inl rq))), (la, .inr (1, [.int (nI bc), .ref hl1, .ref hi1, .ref hs1])), (hl1, .inl (cJ, 32, .inr (.inl le)))] → va_S A s.heap H locs → ∀ (ls : Array Slot), lv_has ls 9 [(0, .ref o), (3, .long lv), (5, .int (nI (p_pe k (pp + 1) rc))), (6, .long (p_nwl rq lv (p_pe k pp rc) t)), (8, .int (nI (p_pe k pp rc + t)))] → W p l e { frames := 2, cells := 0, slots := 0, locals := 45 } s m ([.ref o, .int (nI k), .int (nI pp)] : List Value).toArray below meth c H locs 0 0 (MQ below (zQ D (zEq (some (.int (nI (p_wd rq rc lv k pp)))) [(o, .inr (3, [.ref ro, .int (nI rc), .ref bo, .ref so, .ref la, .ref lb])), (ro, .inl (cJ, 2000, .inr (.inl rq))), (la, .inr (1, [.int (nI bc), .ref hl1, .ref hi1, .ref hs1])), (hl1, .inl (cJ, 32, .inr (.inl le)))]) A) ([.ref o, .int (nI k), .int (nI pp)] : List Value).toArray s 0 0 A) (F0 m 37 ls []) := by
    intro n
    induction n with
    | zero => intro t h1 hmu; exact absurd hmu (Nat.not_lt_zero _)
    | succ n ih =>
      intro t h1 hmu H locs hP hD hS ls hl
      have ih37 := ih
      refine lv_iload hx hb d_DeltaRows_neededWidth_37 (lv_at hl 4 rfl) ?_
      refine lv_iload hx hb d_DeltaRows_neededWidth_39 (lv_at hl 2 rfl) ?_
      refine zn_ge (a := p_pe k pp rc + t) (b := p_pe k (pp + 1) rc) (by omega) (by omega) hx hb d_DeltaRows_neededWidth_41 (tgt := 74) (by decide) (fun c_41 => ?_) (fun c_41 => ?_)
      · skip
        refine lv_bipush (v := nI 64) hx hb d_DeltaRows_neededWidth_74 (by decide +kernel) ?_
        refine lv_lload hx hb d_DeltaRows_neededWidth_76 (lv_at hl 3 rfl) ?_
        have e7 := e6 (p_nwl rq lv (p_pe k pp rc) t)
        refine z_callEi (wr := [(o, .inr (3, [.ref ro, .int (nI rc), .ref bo, .ref so, .ref la, .ref lb])), (ro, .inl (cJ, 2000, .inr (.inl rq))), (la, .inr (1, [.int (nI bc), .ref hl1, .ref hi1, .ref hs1])), (hl1, .inl (cJ, 32, .inr (.inl le)))]) (w2 := [(o, .inr (3, [.ref ro, .int (nI rc), .ref bo, .ref so, .ref la, .ref lb])), (ro, .inl (cJ, 2000, .inr (.inl rq))), (la, .inr (1, [.int (nI bc), .ref hl1, .ref hi1, .ref hs1])), (hl1, .inl (cJ, 32, .inr (.inl le)))]) (z_runS (rest := [.int (nI 64)]) hx hb hml hown hts hK hN (c_Long_numberOfLeadingZeros l D cI cJ (p_nwl rq lv (p_pe k pp rc) t) ) kk_DeltaRows_133 (zP.cut hP [] rfl) (hD.sub [] (by decide) rfl) rfl hl.1 rfl (Nat.le_of_ble_eq_true rfl) d_DeltaRows_neededWidth_78 (by decide) (by decide)) hP hD hS hA [] [0, 1, 2, 3] [0, 1, 2, 3] rfl rfl (by decide) (by decide) (by decide) rfl (fun H locs hP hD hS => ?_)
        refine lv_isub hx hb d_DeltaRows_neededWidth_81 (z_i (pk_sub (a := 64) (b := p_nlz (p_nwl rq lv (p_pe k pp rc) t)) (by omega)) ?_)
        exact z_iret hx hb hr hlocks hS hP hD ⟨by unfold p_wd; rw [show p_pe k (pp + 1) rc - p_pe k pp rc = t by omega], rfl⟩ d_DeltaRows_neededWidth_82
      · skip
        refine lv_lload hx hb d_DeltaRows_neededWidth_44 (lv_at hl 3 rfl) ?_
        refine lv_aload_n hx hb d_DeltaRows_neededWidth_46 rfl (lv_at hl 0 rfl) ?_
        refine g_DeltaRows_9 hx hb hts hown hK hP 0 rfl rfl d_DeltaRows_neededWidth_47 ?_
        refine lv_iload hx hb d_DeltaRows_neededWidth_50 (lv_at hl 4 rfl) ?_
        refine z_lald hx hb hK hP 1 1 rfl rfl (by omega) (by decide) d_DeltaRows_neededWidth_52 ?_
        refine lv_aload_n hx hb d_DeltaRows_neededWidth_53 rfl (lv_at hl 0 rfl) ?_
        refine g_DeltaRows_9 hx hb hts hown hK hP 0 rfl rfl d_DeltaRows_neededWidth_54 ?_
        refine lv_iload hx hb d_DeltaRows_neededWidth_57 (lv_at hl 4 rfl) ?_
        refine lv_iconst (v := nI 1) hx hb d_DeltaRows_neededWidth_59 (by decide +kernel) ?_
        refine lv_isub hx hb d_DeltaRows_neededWidth_60 (z_i (pk_sub (a := p_pe k pp rc + t) (b := 1) (by omega)) ?_)
        refine z_lald hx hb hK hP 1 1 rfl rfl (by omega) (by decide) d_DeltaRows_neededWidth_61 ?_
        refine lv_lsub hx hb d_DeltaRows_neededWidth_62 ?_
        refine lv_lload_n hx hb d_DeltaRows_neededWidth_63 rfl (lv_at hl 1 rfl) ?_
        refine lv_lsub hx hb d_DeltaRows_neededWidth_64 ?_
        refine lv_lor hx hb d_DeltaRows_neededWidth_65 ?_
        refine lv_lstore (lv' := [(6, .long ((p_nwl rq lv (p_pe k pp rc) t) ||| (((rq (p_pe k pp rc + t)) - (rq ((p_pe k pp rc + t) - 1))) - lv))), (0, .ref o), (3, .long lv), (5, .int (nI (p_pe k (pp + 1) rc))), (8, .int (nI (p_pe k pp rc + t)))]) hx hb d_DeltaRows_neededWidth_66 hl (by decide) rfl (fun ls hl => ?_)
        refine lv_iinc (v := nI (p_pe k pp rc + t + 1)) (lv' := [(8, .int (nI (p_pe k pp rc + t + 1))), (6, .long ((p_nwl rq lv (p_pe k pp rc) t) ||| (((rq (p_pe k pp rc + t)) - (rq ((p_pe k pp rc + t) - 1))) - lv))), (0, .ref o), (3, .long lv), (5, .int (nI (p_pe k (pp + 1) rc)))]) hx hb d_DeltaRows_neededWidth_68 hl (k := 4) rfl (zinc (p_pe k pp rc + t) 1) (by decide) rfl (fun ls hl => ?_)
        refine lv_goto (tgt := 37) hx hb d_DeltaRows_neededWidth_71 (by decide) ?_
        exact ih37 (t + 1) (by omega) (by omega) _ _ hP hD hS ls (lv_sub hl [2, 3, 4, 1, 0] rfl)
  exact hlp37 _ 0 (Nat.zero_le _) (Nat.lt_succ_self _) _ _ hP hD hS ls (lv_sub hl [4, 3, 2, 1, 0] rfl)

set_option maxHeartbeats 4000000 in
set_option maxRecDepth 100000 in
theorem c_DeltaRows_writePart (l : Launch) (D : va_G) (cI cJ : ClassId) (o : Nat) (ro : Nat) (bo : Nat) (so : Nat) (la : Nat) (lb : Nat) (rc : Nat) (rq : Nat → Int64) (hl1 : Nat) (hi1 : Nat) (hs1 : Nat) (bc : Nat) (hw : Nat) (b : BB) (le : Nat → Int64) (wi : Nat → Int32) (lv : Int64) (w : Nat) (k : Nat) (pp : Nat) (hrc : rc ≤ 2000) (hk : k < p_bf rc) (hp : pp < 4) (hle : le k = lv) (hwi : wi (k * 4 + pp) = nI w) (hw1 : w ≤ 64) (hu : b.2 ≤ 19000) : Ct l D (zT cI cJ) y_DeltaRows_writePart b_DeltaRows_writePart 10 none 2 53 0 0 [.ref o, .int (nI k), .int (nI pp)] [(o, .inr (3, [.ref ro, .int (nI rc), .ref bo, .ref so, .ref la, .ref lb])), (ro, .inl (cJ, 2000, .inr (.inl rq))), (bo, .inr (0, [.ref hw, .int (nI b.2)])), (hw, .inl (cJ, 2500, .inr (.inl b.1))), (la, .inr (1, [.int (nI bc), .ref hl1, .ref hi1, .ref hs1])), (hl1, .inl (cJ, 32, .inr (.inl le))), (hi1, .inl (cI, 128, .inl wi))] (zEq none [(o, .inr (3, [.ref ro, .int (nI rc), .ref bo, .ref so, .ref la, .ref lb])), (ro, .inl (cJ, 2000, .inr (.inl rq))), (bo, .inr (0, [.ref hw, .int (nI ((p_wp rq rc lv w k pp b).2))])), (hw, .inl (cJ, 2500, .inr (.inl ((p_wp rq rc lv w k pp b).1)))), (la, .inr (1, [.int (nI bc), .ref hl1, .ref hi1, .ref hs1])), (hl1, .inl (cJ, 32, .inr (.inl le))), (hi1, .inl (cI, 128, .inl wi))]) := by
  refine Ct.ofW (by decide) (Nat.le_of_ble_eq_true rfl) ?_
  intro p e s m below meth c A ls C0 hP hD hS hl
  obtain ⟨hx, hb, hml, hown, hts, hK, hN, hr, hlocks, hA, hnm⟩ := C0
  have hl : lv_has ls 10 [(0, .ref o), (1, .int (nI k)), (2, .int (nI pp))] := hl
  have hown : s.vm.findClass R_DeltaRows = some m.cls := hown
  have hk2 := p_bf_in hk
  have hk3 := p_bf_le hrc
  have e0 := p_pe_mono rc k pp
  have e1 : 1 ≤ p_pe k pp rc := by unfold p_pe; omega
  have e2 := p_pe_to rc k pp
  have e5 := p_pe_to rc k (pp + 1)
  refine lv_aload_n hx hb d_DeltaRows_writePart_0 rfl (lv_at hl 0 rfl) ?_
  refine g_DeltaRows_36 hx hb hts hown hK hP 0 rfl rfl d_DeltaRows_writePart_1 ?_
  refine g_DeltaRows_98 hx hb hts hown hK hP 4 rfl rfl d_DeltaRows_writePart_4 ?_
  refine lv_iload_n hx hb d_DeltaRows_writePart_7 rfl (lv_at hl 1 rfl) ?_
  refine z_lald hx hb hK hP 5 1 rfl rfl (by omega) (by decide) d_DeltaRows_writePart_8 ?_
  refine z_l hle ?_
  refine lv_lstore_n (lv' := [(3, .long lv), (0, .ref o), (1, .int (nI k)), (2, .int (nI pp))]) hx hb d_DeltaRows_writePart_9 rfl hl (by decide) rfl (fun ls hl => ?_)
  refine lv_aload_n hx hb d_DeltaRows_writePart_10 rfl (lv_at hl 1 rfl) ?_
  refine g_DeltaRows_36 hx hb hts hown hK hP 0 rfl rfl d_DeltaRows_writePart_11 ?_
  refine g_DeltaRows_105 hx hb hts hown hK hP 4 rfl rfl d_DeltaRows_writePart_14 ?_
  refine lv_iload_n hx hb d_DeltaRows_writePart_17 rfl (lv_at hl 2 rfl) ?_
  refine lv_iconst (v := nI 4) hx hb d_DeltaRows_writePart_18 (by decide +kernel) ?_
  refine lv_imul hx hb d_DeltaRows_writePart_19 (z_i (pk_mul k 4) ?_)
  refine lv_iload_n hx hb d_DeltaRows_writePart_20 rfl (lv_at hl 3 rfl) ?_
  refine lv_iadd hx hb d_DeltaRows_writePart_21 (z_i (nI_add (k * 4) pp) ?_)
  refine z_iald hx hb hK hP 6 0 rfl rfl (by omega) (by decide) d_DeltaRows_writePart_22 ?_
  refine z_i hwi ?_
  refine lv_istore (lv' := [(5, .int (nI w)), (3, .long lv), (0, .ref o), (1, .int (nI k)), (2, .int (nI pp))]) hx hb d_DeltaRows_writePart_23 hl (by decide) rfl (fun ls hl => ?_)
  refine lv_iload_n hx hb d_DeltaRows_writePart_25 rfl (lv_at hl 3 rfl) ?_
  refine lv_iload_n hx hb d_DeltaRows_writePart_26 rfl (lv_at hl 4 rfl) ?_
  refine lv_aload_n hx hb d_DeltaRows_writePart_27 rfl (lv_at hl 2 rfl) ?_
  refine g_DeltaRows_13 hx hb hts hown hK hP 0 rfl rfl d_DeltaRows_writePart_28 ?_
  refine z_callEi (wr := [(o, .inr (3, [.ref ro, .int (nI rc), .ref bo, .ref so, .ref la, .ref lb])), (ro, .inl (cJ, 2000, .inr (.inl rq))), (bo, .inr (0, [.ref hw, .int (nI b.2)])), (hw, .inl (cJ, 2500, .inr (.inl b.1))), (la, .inr (1, [.int (nI bc), .ref hl1, .ref hi1, .ref hs1])), (hl1, .inl (cJ, 32, .inr (.inl le))), (hi1, .inl (cI, 128, .inl wi))]) (w2 := [(o, .inr (3, [.ref ro, .int (nI rc), .ref bo, .ref so, .ref la, .ref lb])), (ro, .inl (cJ, 2000, .inr (.inl rq))), (bo, .inr (0, [.ref hw, .int (nI b.2)])), (hw, .inl (cJ, 2500, .inr (.inl b.1))), (la, .inr (1, [.int (nI bc), .ref hl1, .ref hi1, .ref hs1])), (hl1, .inl (cJ, 32, .inr (.inl le))), (hi1, .inl (cI, 128, .inl wi))]) (z_runS (rest := []) hx hb hml hown hts hK hN (c_DeltaRows_partEdge l D cI cJ k pp rc (by (try dsimp only); omega) (by (try dsimp only); omega) (by (try dsimp only); omega)) kk_DeltaRows_123 (zP.cut hP [] rfl) (hD.sub [] (by decide) rfl) rfl hl.1 rfl (Nat.le_of_ble_eq_true rfl) d_DeltaRows_writePart_31 (by decide) (by decide)) hP hD hS hA [] [0, 1, 2, 3, 4, 5, 6] [0, 1, 2, 3, 4, 5, 6] rfl rfl (by decide) (by decide) (by decide) rfl (fun H locs hP hD hS => ?_)
  refine lv_istore (lv' := [(6, .int (nI (p_pe k pp rc))), (5, .int (nI w)), (3, .long lv), (0, .ref o), (1, .int (nI k)), (2, .int (nI pp))]) hx hb d_DeltaRows_writePart_34 hl (by decide) rfl (fun ls hl => ?_)
  refine lv_iload_n hx hb d_DeltaRows_writePart_36 rfl (lv_at hl 4 rfl) ?_
  refine lv_iload_n hx hb d_DeltaRows_writePart_37 rfl (lv_at hl 5 rfl) ?_
  refine lv_iconst (v := nI 1) hx hb d_DeltaRows_writePart_38 (by decide +kernel) ?_
  refine lv_iadd hx hb d_DeltaRows_writePart_39 (z_i (nI_add pp 1) ?_)
  refine lv_aload_n hx hb d_DeltaRows_writePart_40 rfl (lv_at hl 3 rfl) ?_
  refine g_DeltaRows_13 hx hb hts hown hK hP 0 rfl rfl d_DeltaRows_writePart_41 ?_
  refine z_callEi (wr := [(o, .inr (3, [.ref ro, .int (nI rc), .ref bo, .ref so, .ref la, .ref lb])), (ro, .inl (cJ, 2000, .inr (.inl rq))), (bo, .inr (0, [.ref hw, .int (nI b.2)])), (hw, .inl (cJ, 2500, .inr (.inl b.1))), (la, .inr (1, [.int (nI bc), .ref hl1, .ref hi1, .ref hs1])), (hl1, .inl (cJ, 32, .inr (.inl le))), (hi1, .inl (cI, 128, .inl wi))]) (w2 := [(o, .inr (3, [.ref ro, .int (nI rc), .ref bo, .ref so, .ref la, .ref lb])), (ro, .inl (cJ, 2000, .inr (.inl rq))), (bo, .inr (0, [.ref hw, .int (nI b.2)])), (hw, .inl (cJ, 2500, .inr (.inl b.1))), (la, .inr (1, [.int (nI bc), .ref hl1, .ref hi1, .ref hs1])), (hl1, .inl (cJ, 32, .inr (.inl le))), (hi1, .inl (cI, 128, .inl wi))]) (z_runS (rest := []) hx hb hml hown hts hK hN (c_DeltaRows_partEdge l D cI cJ k (pp + 1) rc (by (try dsimp only); omega) (by (try dsimp only); omega) (by (try dsimp only); omega)) kk_DeltaRows_123 (zP.cut hP [] rfl) (hD.sub [] (by decide) rfl) rfl hl.1 rfl (Nat.le_of_ble_eq_true rfl) d_DeltaRows_writePart_44 (by decide) (by decide)) hP hD hS hA [] [0, 1, 2, 3, 4, 5, 6] [0, 1, 2, 3, 4, 5, 6] rfl rfl (by decide) (by decide) (by decide) rfl (fun H locs hP hD hS => ?_)
  refine lv_istore (lv' := [(7, .int (nI (p_pe k (pp + 1) rc))), (6, .int (nI (p_pe k pp rc))), (5, .int (nI w)), (3, .long lv), (0, .ref o), (1, .int (nI k)), (2, .int (nI pp))]) hx hb d_DeltaRows_writePart_47 hl (by decide) rfl (fun ls hl => ?_)
  refine lv_aload_n hx hb d_DeltaRows_writePart_49 rfl (lv_at hl 4 rfl) ?_
  refine g_DeltaRows_20 hx hb hts hown hK hP 0 rfl rfl d_DeltaRows_writePart_50 ?_
  refine g_DeltaRows_65 hx hb hts hown hK hP 2 rfl rfl d_DeltaRows_writePart_53 ?_
  refine lv_bipush (v := nI 8) hx hb d_DeltaRows_writePart_56 (by decide +kernel) ?_
  refine lv_imul hx hb d_DeltaRows_writePart_58 (z_i (pk_mul b.2 8) ?_)
  refine lv_istore (lv' := [(8, .int (nI (b.2 * 8))), (7, .int (nI (p_pe k (pp + 1) rc))), (6, .int (nI (p_pe k pp rc))), (5, .int (nI w)), (3, .long lv), (0, .ref o), (1, .int (nI k)), (2, .int (nI pp))]) hx hb d_DeltaRows_writePart_59 hl (by decide) rfl (fun ls hl => ?_)
  refine lv_iload hx hb d_DeltaRows_writePart_61 (lv_at hl 2 rfl) ?_
  refine lv_istore (lv' := [(9, .int (nI (p_pe k pp rc))), (8, .int (nI (b.2 * 8))), (7, .int (nI (p_pe k (pp + 1) rc))), (6, .int (nI (p_pe k pp rc))), (5, .int (nI w)), (3, .long lv), (0, .ref o), (1, .int (nI k)), (2, .int (nI pp))]) hx hb d_DeltaRows_writePart_63 hl (by decide) rfl (fun ls hl => ?_)
  have hlp65 : ∀ (n : Nat) (i : Nat) (q : Nat) (wd : Nat → Int64), (p_pe k pp rc ≤ i ∧ i ≤ p_pe k pp rc + 16) → (q + (p_pe k pp rc + 16 - i) * 64 ≤ b.2 * 8 + 1024) → (p_wpl rq lv (p_pe k (pp + 1) rc) w (p_pe k pp rc + 16 - i) i q wd = (p_wp rq rc lv w k pp b).1) → p_pe k pp rc + 16 - i < n → ∀ (H : Heap) (locs : List Loc), va_P D classes [(o, .inr (3, [.ref ro, .int (nI rc), .ref bo, .ref so, .ref la, .ref lb])), (ro, .inl (cJ, 2000, .inr (.inl rq))), (bo, .inr (0, [.ref hw, .int (nI b.2)])), (hw, .inl (cJ, 2500, .inr (.inl wd))), (la, .inr (1, [.int (nI bc), .ref hl1, .ref hi1, .ref hs1])), (hl1, .inl (cJ, 32, .inr (.inl le))), (hi1, .inl (cI, 128, .inl wi))] H → va_D A [(o, .inr (3, [.ref ro, .int (nI rc), .ref bo, .ref so, .ref la, .ref lb])), (ro, .inl (cJ, 2000, .inr (.inl rq))), (bo, .inr (0, [.ref hw, .int (nI b.2)])), (hw, .inl (cJ, 2500, .inr (.inl wd))), (la, .inr (1, [.int (nI bc), .ref hl1, .ref hi1, .ref hs1])), (hl1, .inl (cJ, 32, .inr (.inl le))), (hi1, .inl (cI, 128, .inl wi))] → va_S A s.heap H locs → ∀ (ls : Array Slot), lv_has ls 10 [(0, .ref o), (3, .long lv), (5, .int (nI w)), (6, .int (nI (p_pe k pp rc))), (7, .int (nI (p_pe k (pp + 1) rc))), (8, .int (nI q)), (9, .int (nI i))] → W p l e { frames := 2, cells := 0, slots := 0, locals := 53 } s m ([.ref o, .int (nI k), .int (nI pp)] : List Value).toArray below meth c H locs 0 0 (MQ below (zQ D (zEq none [(o, .inr (3, [.ref ro, .int (nI rc), .ref bo, .ref so, .ref la, .ref lb])), (ro, .inl (cJ, 2000, .inr (.inl rq))), (bo, .inr (0, [.ref hw, .int (nI ((p_wp rq rc lv w k pp b).2))])), (hw, .inl (cJ, 2500, .inr (.inl ((p_wp rq rc lv w k pp b).1)))), (la, .inr (1, [.int (nI bc), .ref hl1, .ref hi1, .ref hs1])), (hl1, .inl (cJ, 32, .inr (.inl le))), (hi1, .inl (cI, 128, .inl wi))]) A) ([.ref o, .int (nI k), .int (nI pp)] : List Value).toArray s 0 0 A) (F0 m 65 ls []) := by
    intro n
    induction n with
    | zero => intro i q wd h1 hq hR hmu; exact absurd hmu (Nat.not_lt_zero _)
    | succ n ih =>
      intro i q wd h1 hq hR hmu H locs hP hD hS ls hl
      have ih65 := ih
      refine lv_iload hx hb d_DeltaRows_writePart_65 (lv_at hl 6 rfl) ?_
      refine lv_iload hx hb d_DeltaRows_writePart_67 (lv_at hl 3 rfl) ?_
      refine lv_bipush (v := nI 16) hx hb d_DeltaRows_writePart_69 (by decide +kernel) ?_
      refine lv_iadd hx hb d_DeltaRows_writePart_71 (z_i (nI_add (p_pe k pp rc) 16) ?_)
      refine zn_ge (a := i) (b := p_pe k pp rc + 16) (by omega) (by omega) hx hb d_DeltaRows_writePart_72 (tgt := 129) (by decide) (fun c_72 => ?_) (fun c_72 => ?_)
      · skip
        refine lv_aload_n hx hb d_DeltaRows_writePart_129 rfl (lv_at hl 0 rfl) ?_
        refine g_DeltaRows_20 hx hb hts hown hK hP 0 rfl rfl d_DeltaRows_writePart_130 ?_
        refine lv_dup hx hb d_DeltaRows_writePart_133 rfl ?_
        refine g_DeltaRows_65 hx hb hts hown hK hP 2 rfl rfl d_DeltaRows_writePart_134 ?_
        refine lv_iload hx hb d_DeltaRows_writePart_137 (lv_at hl 2 rfl) ?_
        refine z_callEi (wr := [(o, .inr (3, [.ref ro, .int (nI rc), .ref bo, .ref so, .ref la, .ref lb])), (ro, .inl (cJ, 2000, .inr (.inl rq))), (bo, .inr (0, [.ref hw, .int (nI b.2)])), (hw, .inl (cJ, 2500, .inr (.inl wd))), (la, .inr (1, [.int (nI bc), .ref hl1, .ref hi1, .ref hs1])), (hl1, .inl (cJ, 32, .inr (.inl le))), (hi1, .inl (cI, 128, .inl wi))]) (w2 := [(o, .inr (3, [.ref ro, .int (nI rc), .ref bo, .ref so, .ref la, .ref lb])), (ro, .inl (cJ, 2000, .inr (.inl rq))), (bo, .inr (0, [.ref hw, .int (nI b.2)])), (hw, .inl (cJ, 2500, .inr (.inl wd))), (la, .inr (1, [.int (nI bc), .ref hl1, .ref hi1, .ref hs1])), (hl1, .inl (cJ, 32, .inr (.inl le))), (hi1, .inl (cI, 128, .inl wi))]) (z_runS (rest := [.int (nI b.2), .ref bo]) hx hb hml hown hts hK hN (c_DeltaRows_partBytes l D cI cJ w (by (try dsimp only); omega)) kk_DeltaRows_143 (zP.cut hP [] rfl) (hD.sub [] (by decide) rfl) rfl hl.1 rfl (Nat.le_of_ble_eq_true rfl) d_DeltaRows_writePart_139 (by decide) (by decide)) hP hD hS hA [] [0, 1, 2, 3, 4, 5, 6] [0, 1, 2, 3, 4, 5, 6] rfl rfl (by decide) (by decide) (by decide) rfl (fun H locs hP hD hS => ?_)
        refine lv_iadd hx hb d_DeltaRows_writePart_142 (z_i (nI_add b.2 (w * 16 / 8)) ?_)
        refine p_DeltaRows_65 (w2 := [(o, .inr (3, [.ref ro, .int (nI rc), .ref bo, .ref so, .ref la, .ref lb])), (ro, .inl (cJ, 2000, .inr (.inl rq))), (bo, .inr (0, [.ref hw, .int (nI (b.2 + w * 16 / 8))])), (hw, .inl (cJ, 2500, .inr (.inl wd))), (la, .inr (1, [.int (nI bc), .ref hl1, .ref hi1, .ref hs1])), (hl1, .inl (cJ, 32, .inr (.inl le))), (hi1, .inl (cI, 128, .inl wi))]) hx hb hts hown hK hP hD hS 2 rfl (Nat.le_of_ble_eq_true rfl) rfl d_DeltaRows_writePart_143 (fun H locs hP hD hS => ?_)
        exact z_vret hx hb hr hlocks hS hP hD ⟨rfl, by rw [← hR, show p_pe k pp rc + 16 - i = 0 by omega]; rfl⟩ d_DeltaRows_writePart_146
      · skip
        refine lv_aload_n hx hb d_DeltaRows_writePart_75 rfl (lv_at hl 0 rfl) ?_
        refine g_DeltaRows_20 hx hb hts hown hK hP 0 rfl rfl d_DeltaRows_writePart_76 ?_
        refine lv_iload hx hb d_DeltaRows_writePart_79 (lv_at hl 5 rfl) ?_
        refine lv_iload hx hb d_DeltaRows_writePart_81 (lv_at hl 2 rfl) ?_
        refine lv_iload hx hb d_DeltaRows_writePart_83 (lv_at hl 6 rfl) ?_
        refine lv_iload hx hb d_DeltaRows_writePart_85 (lv_at hl 4 rfl) ?_
        refine zn_ge (a := i) (b := p_pe k (pp + 1) rc) (by omega) (by omega) hx hb d_DeltaRows_writePart_87 (tgt := 112) (by decide) (fun c_87 => ?_) (fun c_87 => ?_)
        · skip
          refine lv_lconst (v := 0) hx hb d_DeltaRows_writePart_112 (by decide +kernel) ?_
          refine z_callEv (wr := [(o, .inr (3, [.ref ro, .int (nI rc), .ref bo, .ref so, .ref la, .ref lb])), (ro, .inl (cJ, 2000, .inr (.inl rq))), (la, .inr (1, [.int (nI bc), .ref hl1, .ref hi1, .ref hs1])), (hl1, .inl (cJ, 32, .inr (.inl le))), (hi1, .inl (cI, 128, .inl wi))]) (w2 := [(o, .inr (3, [.ref ro, .int (nI rc), .ref bo, .ref so, .ref la, .ref lb])), (ro, .inl (cJ, 2000, .inr (.inl rq))), (bo, .inr (0, [.ref hw, .int (nI (wd, b.2).2)])), (hw, .inl (cJ, 2500, .inr (.inl (p_setBits (wd, b.2).1 q w 0)))), (la, .inr (1, [.int (nI bc), .ref hl1, .ref hi1, .ref hs1])), (hl1, .inl (cJ, 32, .inr (.inl le))), (hi1, .inl (cI, 128, .inl wi))]) (z_runV (rest := []) hx hb hml hown hts hK hN (c_ByteRow_setBits l D cI cJ bo hw (wd, b.2) q w 0 (by (try dsimp only); omega) (by (try dsimp only); omega)) kk_DeltaRows_139 (zP.cut hP [2, 3] rfl) (hD.sub [2, 3] (by decide) rfl) 0 rfl rfl rfl hl.1 rfl (Nat.le_of_ble_eq_true rfl) d_DeltaRows_writePart_113 (by decide) (by decide)) hP hD hS hA [2, 3] [0, 1, 4, 5, 6] [0, 1, 5, 6, 2, 3, 4] rfl rfl (by decide) (by decide) (by decide) rfl (fun H locs hP hD hS => ?_)
          refine lv_iload hx hb d_DeltaRows_writePart_116 (lv_at hl 5 rfl) ?_
          refine lv_iload hx hb d_DeltaRows_writePart_118 (lv_at hl 2 rfl) ?_
          refine lv_iadd hx hb d_DeltaRows_writePart_120 (z_i (nI_add q w) ?_)
          refine lv_istore (lv' := [(8, .int (nI (q + w))), (0, .ref o), (3, .long lv), (5, .int (nI w)), (6, .int (nI (p_pe k pp rc))), (7, .int (nI (p_pe k (pp + 1) rc))), (9, .int (nI i))]) hx hb d_DeltaRows_writePart_121 hl (by decide) rfl (fun ls hl => ?_)
          refine lv_iinc (v := nI (i + 1)) (lv' := [(9, .int (nI (i + 1))), (8, .int (nI (q + w))), (0, .ref o), (3, .long lv), (5, .int (nI w)), (6, .int (nI (p_pe k pp rc))), (7, .int (nI (p_pe k (pp + 1) rc)))]) hx hb d_DeltaRows_writePart_123 hl (k := 6) rfl (zinc i 1) (by decide) rfl (fun ls hl => ?_)
          refine lv_goto (tgt := 65) hx hb d_DeltaRows_writePart_126 (by decide) ?_
          exact ih65 (i + 1) (q + w) (p_setBits wd q w (if i < p_pe k (pp + 1) rc then rq i - rq (i - 1) - lv else 0)) (by omega) (by omega) (by rw [show p_pe k pp rc + 16 - i = (p_pe k pp rc + 16 - (i + 1)) + 1 by omega, p_wpl] at hR; exact hR) (by omega) _ _ (by first | (rw [if_pos c_87]; exact hP) | (rw [if_neg (Nat.not_lt.mpr c_87)]; exact hP)) (by first | (rw [if_pos c_87]; exact hD) | (rw [if_neg (Nat.not_lt.mpr c_87)]; exact hD)) hS ls (lv_sub hl [2, 3, 4, 5, 6, 1, 0] rfl)
        · skip
          refine lv_aload_n hx hb d_DeltaRows_writePart_90 rfl (lv_at hl 0 rfl) ?_
          refine g_DeltaRows_9 hx hb hts hown hK hP 0 rfl rfl d_DeltaRows_writePart_91 ?_
          refine lv_iload hx hb d_DeltaRows_writePart_94 (lv_at hl 6 rfl) ?_
          refine z_lald hx hb hK hP 1 1 rfl rfl (by omega) (by decide) d_DeltaRows_writePart_96 ?_
          refine lv_aload_n hx hb d_DeltaRows_writePart_97 rfl (lv_at hl 0 rfl) ?_
          refine g_DeltaRows_9 hx hb hts hown hK hP 0 rfl rfl d_DeltaRows_writePart_98 ?_
          refine lv_iload hx hb d_DeltaRows_writePart_101 (lv_at hl 6 rfl) ?_
          refine lv_iconst (v := nI 1) hx hb d_DeltaRows_writePart_103 (by decide +kernel) ?_
          refine lv_isub hx hb d_DeltaRows_writePart_104 (z_i (pk_sub (a := i) (b := 1) (by omega)) ?_)
          refine z_lald hx hb hK hP 1 1 rfl rfl (by omega) (by decide) d_DeltaRows_writePart_105 ?_
          refine lv_lsub hx hb d_DeltaRows_writePart_106 ?_
          refine lv_lload_n hx hb d_DeltaRows_writePart_107 rfl (lv_at hl 1 rfl) ?_
          refine lv_lsub hx hb d_DeltaRows_writePart_108 ?_
          refine lv_goto (tgt := 113) hx hb d_DeltaRows_writePart_109 (by decide) ?_
          refine z_callEv (wr := [(o, .inr (3, [.ref ro, .int (nI rc), .ref bo, .ref so, .ref la, .ref lb])), (ro, .inl (cJ, 2000, .inr (.inl rq))), (la, .inr (1, [.int (nI bc), .ref hl1, .ref hi1, .ref hs1])), (hl1, .inl (cJ, 32, .inr (.inl le))), (hi1, .inl (cI, 128, .inl wi))]) (w2 := [(o, .inr (3, [.ref ro, .int (nI rc), .ref bo, .ref so, .ref la, .ref lb])), (ro, .inl (cJ, 2000, .inr (.inl rq))), (bo, .inr (0, [.ref hw, .int (nI (wd, b.2).2)])), (hw, .inl (cJ, 2500, .inr (.inl (p_setBits (wd, b.2).1 q w (((rq i) - (rq (i - 1))) - lv))))), (la, .inr (1, [.int (nI bc), .ref hl1, .ref hi1, .ref hs1])), (hl1, .inl (cJ, 32, .inr (.inl le))), (hi1, .inl (cI, 128, .inl wi))]) (z_runV (rest := []) hx hb hml hown hts hK hN (c_ByteRow_setBits l D cI cJ bo hw (wd, b.2) q w (((rq i) - (rq (i - 1))) - lv) (by (try dsimp only); omega) (by (try dsimp only); omega)) kk_DeltaRows_139 (zP.cut hP [2, 3] rfl) (hD.sub [2, 3] (by decide) rfl) 0 rfl rfl rfl hl.1 rfl (Nat.le_of_ble_eq_true rfl) d_DeltaRows_writePart_113 (by decide) (by decide)) hP hD hS hA [2, 3] [0, 1, 4, 5, 6] [0, 1, 5, 6, 2, 3, 4] rfl rfl (by decide) (by decide) (by decide) rfl (fun H locs hP hD hS => ?_)
          refine lv_iload hx hb d_DeltaRows_writePart_116 (lv_at hl 5 rfl) ?_
          refine lv_iload hx hb d_DeltaRows_writePart_118 (lv_at hl 2 rfl) ?_
          refine lv_iadd hx hb d_DeltaRows_writePart_120 (z_i (nI_add q w) ?_)
          refine lv_istore (lv' := [(8, .int (nI (q + w))), (0, .ref o), (3, .long lv), (5, .int (nI w)), (6, .int (nI (p_pe k pp rc))), (7, .int (nI (p_pe k (pp + 1) rc))), (9, .int (nI i))]) hx hb d_DeltaRows_writePart_121 hl (by decide) rfl (fun ls hl => ?_)
          refine lv_iinc (v := nI (i + 1)) (lv' := [(9, .int (nI (i + 1))), (8, .int (nI (q + w))), (0, .ref o), (3, .long lv), (5, .int (nI w)), (6, .int (nI (p_pe k pp rc))), (7, .int (nI (p_pe k (pp + 1) rc)))]) hx hb d_DeltaRows_writePart_123 hl (k := 6) rfl (zinc i 1) (by decide) rfl (fun ls hl => ?_)
          refine lv_goto (tgt := 65) hx hb d_DeltaRows_writePart_126 (by decide) ?_
          exact ih65 (i + 1) (q + w) (p_setBits wd q w (if i < p_pe k (pp + 1) rc then rq i - rq (i - 1) - lv else 0)) (by omega) (by omega) (by rw [show p_pe k pp rc + 16 - i = (p_pe k pp rc + 16 - (i + 1)) + 1 by omega, p_wpl] at hR; exact hR) (by omega) _ _ (by first | (rw [if_pos c_87]; exact hP) | (rw [if_neg (Nat.not_lt.mpr c_87)]; exact hP)) (by first | (rw [if_pos c_87]; exact hD) | (rw [if_neg (Nat.not_lt.mpr c_87)]; exact hD)) hS ls (lv_sub hl [2, 3, 4, 5, 6, 1, 0] rfl)
  exact hlp65 _ (p_pe k pp rc) (b.2 * 8) b.1 (by omega) (by omega) (by unfold p_wp; rw [show p_pe k pp rc + 16 - p_pe k pp rc = 16 by omega]) (Nat.lt_succ_self _) _ _ hP hD hS ls (lv_sub hl [6, 5, 4, 3, 2, 1, 0] rfl)

set_option maxHeartbeats 4000000 in
set_option maxRecDepth 100000 in
theorem c_DeltaRows_writeBlock (l : Launch) (D : va_G) (cI cJ : ClassId) (o : Nat) (ro : Nat) (bo : Nat) (so : Nat) (la : Nat) (lb : Nat) (rc : Nat) (rq : Nat → Int64) (hl1 : Nat) (hi1 : Nat) (hs1 : Nat) (bc : Nat) (hw : Nat) (x : WW) (k : Nat) (hrc : rc ≤ 2000) (hk : k < p_bf rc) (hu : x.1.2 ≤ 18000) : Ct l D (zT cI cJ) y_DeltaRows_writeBlock b_DeltaRows_writeBlock 6 none 5 121 0 0 [.ref o, .int (nI k)] [(o, .inr (3, [.ref ro, .int (nI rc), .ref bo, .ref so, .ref la, .ref lb])), (ro, .inl (cJ, 2000, .inr (.inl rq))), (bo, .inr (0, [.ref hw, .int (nI x.1.2)])), (hw, .inl (cJ, 2500, .inr (.inl x.1.1))), (la, .inr (1, [.int (nI bc), .ref hl1, .ref hi1, .ref hs1])), (hl1, .inl (cJ, 32, .inr (.inl x.2.1))), (hi1, .inl (cI, 128, .inl x.2.2.1)), (hs1, .inl (cI, 128, .inl x.2.2.2))] (zEq none [(o, .inr (3, [.ref ro, .int (nI rc), .ref bo, .ref so, .ref la, .ref lb])), (ro, .inl (cJ, 2000, .inr (.inl rq))), (bo, .inr (0, [.ref hw, .int (nI ((p_wb rq rc k x).1.2))])), (hw, .inl (cJ, 2500, .inr (.inl ((p_wb rq rc k x).1.1)))), (la, .inr (1, [.int (nI bc), .ref hl1, .ref hi1, .ref hs1])), (hl1, .inl (cJ, 32, .inr (.inl ((p_wb rq rc k x).2.1)))), (hi1, .inl (cI, 128, .inl ((p_wb rq rc k x).2.2.1))), (hs1, .inl (cI, 128, .inl ((p_wb rq rc k x).2.2.2)))]) := by
  refine Ct.ofW (by decide) (Nat.le_of_ble_eq_true rfl) ?_
  intro p e s m below meth c A ls C0 hP hD hS hl
  obtain ⟨hx, hb, hml, hown, hts, hK, hN, hr, hlocks, hA, hnm⟩ := C0
  have hl : lv_has ls 6 [(0, .ref o), (1, .int (nI k))] := hl
  have hown : s.vm.findClass R_DeltaRows = some m.cls := hown
  have hk2 := p_bf_in hk
  have hk3 := p_bf_le hrc
  have u1 := p_av_le1 (b := x.1) (v := p_zig (p_ld rq rc k))
  have u2 := fun t => p_wbw_le (rq := rq) (rc := rc) (le := (p_ld rq rc k)) (k := k) (x := ((p_av x.1 (p_zig (p_ld rq rc k))), x.2.2.1)) t
  have u3 := fun t => p_wbp_le (rq := rq) (rc := rc) (le := (p_ld rq rc k)) (k := k) (x := ((p_wbw rq rc (p_ld rq rc k) k 4 ((p_av x.1 (p_zig (p_ld rq rc k))), x.2.2.1)).1, x.2.2.2)) t
  have u4 := u2 4
  dsimp only at u2 u3 u4
  refine lv_aload_n hx hb d_DeltaRows_writeBlock_0 rfl (lv_at hl 0 rfl) ?_
  refine lv_iload_n hx hb d_DeltaRows_writeBlock_1 rfl (lv_at hl 1 rfl) ?_
  refine z_callEl (wr := [(bo, .inr (0, [.ref hw, .int (nI x.1.2)])), (hw, .inl (cJ, 2500, .inr (.inl x.1.1))), (la, .inr (1, [.int (nI bc), .ref hl1, .ref hi1, .ref hs1])), (hl1, .inl (cJ, 32, .inr (.inl x.2.1))), (hi1, .inl (cI, 128, .inl x.2.2.1)), (hs1, .inl (cI, 128, .inl x.2.2.2))]) (w2 := [(o, .inr (3, [.ref ro, .int (nI rc), .ref bo, .ref so, .ref la, .ref lb])), (ro, .inl (cJ, 2000, .inr (.inl rq))), (bo, .inr (0, [.ref hw, .int (nI x.1.2)])), (hw, .inl (cJ, 2500, .inr (.inl x.1.1))), (la, .inr (1, [.int (nI bc), .ref hl1, .ref hi1, .ref hs1])), (hl1, .inl (cJ, 32, .inr (.inl x.2.1))), (hi1, .inl (cI, 128, .inl x.2.2.1)), (hs1, .inl (cI, 128, .inl x.2.2.2))]) (z_runV (rest := []) hx hb hml hown hts hK hN (c_DeltaRows_leastDifference l D cI cJ o ro bo so la lb rc rq k (by (try dsimp only); omega) (by (try dsimp only); omega)) kk_DeltaRows_112 (zP.cut hP [0, 1] rfl) (hD.sub [0, 1] (by decide) rfl) 0 rfl rfl rfl hl.1 rfl (Nat.le_of_ble_eq_true rfl) d_DeltaRows_writeBlock_2 (by decide) (by decide)) hP hD hS hA [0, 1] [2, 3, 4, 5, 6, 7] [6, 7, 0, 1, 2, 3, 4, 5] rfl rfl (by decide) (by decide) (by decide) rfl (fun H locs hP hD hS => ?_)
  refine lv_lstore_n (lv' := [(2, .long (p_ld rq rc k)), (0, .ref o), (1, .int (nI k))]) hx hb d_DeltaRows_writeBlock_5 rfl hl (by decide) rfl (fun ls hl => ?_)
  refine lv_aload_n hx hb d_DeltaRows_writeBlock_6 rfl (lv_at hl 1 rfl) ?_
  refine g_DeltaRows_36 hx hb hts hown hK hP 0 rfl rfl d_DeltaRows_writeBlock_7 ?_
  refine g_DeltaRows_98 hx hb hts hown hK hP 4 rfl rfl d_DeltaRows_writeBlock_10 ?_
  refine lv_iload_n hx hb d_DeltaRows_writeBlock_13 rfl (lv_at hl 2 rfl) ?_
  refine lv_lload_n hx hb d_DeltaRows_writeBlock_14 rfl (lv_at hl 0 rfl) ?_
  refine z_last (w2 := [(o, .inr (3, [.ref ro, .int (nI rc), .ref bo, .ref so, .ref la, .ref lb])), (ro, .inl (cJ, 2000, .inr (.inl rq))), (bo, .inr (0, [.ref hw, .int (nI x.1.2)])), (hw, .inl (cJ, 2500, .inr (.inl x.1.1))), (la, .inr (1, [.int (nI bc), .ref hl1, .ref hi1, .ref hs1])), (hl1, .inl (cJ, 32, .inr (.inl (vp_updL x.2.1 k (p_ld rq rc k))))), (hi1, .inl (cI, 128, .inl x.2.2.1)), (hs1, .inl (cI, 128, .inl x.2.2.2))]) hx hb hK hP hD hS 5 1 rfl rfl (by omega) (by decide) d_DeltaRows_writeBlock_15 rfl (fun H locs hP hD hS => ?_)
  refine lv_aload_n hx hb d_DeltaRows_writeBlock_16 rfl (lv_at hl 1 rfl) ?_
  refine g_DeltaRows_20 hx hb hts hown hK hP 0 rfl rfl d_DeltaRows_writeBlock_17 ?_
  refine lv_lload_n hx hb d_DeltaRows_writeBlock_20 rfl (lv_at hl 0 rfl) ?_
  refine z_callEl (wr := [(o, .inr (3, [.ref ro, .int (nI rc), .ref bo, .ref so, .ref la, .ref lb])), (ro, .inl (cJ, 2000, .inr (.inl rq))), (bo, .inr (0, [.ref hw, .int (nI x.1.2)])), (hw, .inl (cJ, 2500, .inr (.inl x.1.1))), (la, .inr (1, [.int (nI bc), .ref hl1, .ref hi1, .ref hs1])), (hl1, .inl (cJ, 32, .inr (.inl (vp_updL x.2.1 k (p_ld rq rc k))))), (hi1, .inl (cI, 128, .inl x.2.2.1)), (hs1, .inl (cI, 128, .inl x.2.2.2))]) (w2 := [(o, .inr (3, [.ref ro, .int (nI rc), .ref bo, .ref so, .ref la, .ref lb])), (ro, .inl (cJ, 2000, .inr (.inl rq))), (bo, .inr (0, [.ref hw, .int (nI x.1.2)])), (hw, .inl (cJ, 2500, .inr (.inl x.1.1))), (la, .inr (1, [.int (nI bc), .ref hl1, .ref hi1, .ref hs1])), (hl1, .inl (cJ, 32, .inr (.inl (vp_updL x.2.1 k (p_ld rq rc k))))), (hi1, .inl (cI, 128, .inl x.2.2.1)), (hs1, .inl (cI, 128, .inl x.2.2.2))]) (z_runS (rest := [.ref bo]) hx hb hml hown hts hK hN (c_DeltaRows_zigzag l D cI cJ (p_ld rq rc k) ) kk_DeltaRows_51 (zP.cut hP [] rfl) (hD.sub [] (by decide) rfl) rfl hl.1 rfl (Nat.le_of_ble_eq_true rfl) d_DeltaRows_writeBlock_21 (by decide) (by decide)) hP hD hS hA [] [0, 1, 2, 3, 4, 5, 6, 7] [0, 1, 2, 3, 4, 5, 6, 7] rfl rfl (by decide) (by decide) (by decide) rfl (fun H locs hP hD hS => ?_)
  refine z_callEv (wr := [(o, .inr (3, [.ref ro, .int (nI rc), .ref bo, .ref so, .ref la, .ref lb])), (ro, .inl (cJ, 2000, .inr (.inl rq))), (la, .inr (1, [.int (nI bc), .ref hl1, .ref hi1, .ref hs1])), (hl1, .inl (cJ, 32, .inr (.inl (vp_updL x.2.1 k (p_ld rq rc k))))), (hi1, .inl (cI, 128, .inl x.2.2.1)), (hs1, .inl (cI, 128, .inl x.2.2.2))]) (w2 := [(o, .inr (3, [.ref ro, .int (nI rc), .ref bo, .ref so, .ref la, .ref lb])), (ro, .inl (cJ, 2000, .inr (.inl rq))), (bo, .inr (0, [.ref hw, .int (nI ((p_av x.1 (p_zig (p_ld rq rc k))).2))])), (hw, .inl (cJ, 2500, .inr (.inl ((p_av x.1 (p_zig (p_ld rq rc k))).1)))), (la, .inr (1, [.int (nI bc), .ref hl1, .ref hi1, .ref hs1])), (hl1, .inl (cJ, 32, .inr (.inl (vp_updL x.2.1 k (p_ld rq rc k))))), (hi1, .inl (cI, 128, .inl x.2.2.1)), (hs1, .inl (cI, 128, .inl x.2.2.2))]) (z_runV (rest := []) hx hb hml hown hts hK hN (c_ByteRow_addVarint l D cI cJ bo hw x.1 (p_zig (p_ld rq rc k)) (by (try dsimp only); omega)) kk_DeltaRows_47 (zP.cut hP [2, 3] rfl) (hD.sub [2, 3] (by decide) rfl) 0 rfl rfl rfl hl.1 rfl (Nat.le_of_ble_eq_true rfl) d_DeltaRows_writeBlock_24 (by decide) (by decide)) hP hD hS hA [2, 3] [0, 1, 4, 5, 6, 7] [0, 1, 6, 7, 2, 3, 4, 5] rfl rfl (by decide) (by decide) (by decide) rfl (fun H locs hP hD hS => ?_)
  refine lv_iconst (v := nI 0) hx hb d_DeltaRows_writeBlock_27 (by decide +kernel) ?_
  refine lv_istore (lv' := [(4, .int (nI 0)), (2, .long (p_ld rq rc k)), (0, .ref o), (1, .int (nI k))]) hx hb d_DeltaRows_writeBlock_28 hl (by decide) rfl (fun ls hl => ?_)
  have hlp30 : ∀ (n : Nat) (t : Nat), (t ≤ 4) → 4 - t < n → ∀ (H : Heap) (locs : List Loc), va_P D classes [(o, .inr (3, [.ref ro, .int (nI rc), .ref bo, .ref so, .ref la, .ref lb])), (ro, .inl (cJ, 2000, .inr (.inl rq))), (bo, .inr (0, [.ref hw, .int (nI ((p_wbw rq rc (p_ld rq rc k) k t ((p_av x.1 (p_zig (p_ld rq rc k))), x.2.2.1)).1.2))])), (hw, .inl (cJ, 2500, .inr (.inl ((p_wbw rq rc (p_ld rq rc k) k t ((p_av x.1 (p_zig (p_ld rq rc k))), x.2.2.1)).1.1)))), (la, .inr (1, [.int (nI bc), .ref hl1, .ref hi1, .ref hs1])), (hl1, .inl (cJ, 32, .inr (.inl (vp_updL x.2.1 k (p_ld rq rc k))))), (hi1, .inl (cI, 128, .inl ((p_wbw rq rc (p_ld rq rc k) k t ((p_av x.1 (p_zig (p_ld rq rc k))), x.2.2.1)).2))), (hs1, .inl (cI, 128, .inl x.2.2.2))] H → va_D A [(o, .inr (3, [.ref ro, .int (nI rc), .ref bo, .ref so, .ref la, .ref lb])), (ro, .inl (cJ, 2000, .inr (.inl rq))), (bo, .inr (0, [.ref hw, .int (nI ((p_wbw rq rc (p_ld rq rc k) k t ((p_av x.1 (p_zig (p_ld rq rc k))), x.2.2.1)).1.2))])), (hw, .inl (cJ, 2500, .inr (.inl ((p_wbw rq rc (p_ld rq rc k) k t ((p_av x.1 (p_zig (p_ld rq rc k))), x.2.2.1)).1.1)))), (la, .inr (1, [.int (nI bc), .ref hl1, .ref hi1, .ref hs1])), (hl1, .inl (cJ, 32, .inr (.inl (vp_updL x.2.1 k (p_ld rq rc k))))), (hi1, .inl (cI, 128, .inl ((p_wbw rq rc (p_ld rq rc k) k t ((p_av x.1 (p_zig (p_ld rq rc k))), x.2.2.1)).2))), (hs1, .inl (cI, 128, .inl x.2.2.2))] → va_S A s.heap H locs → ∀ (ls : Array Slot), lv_has ls 6 [(0, .ref o), (1, .int (nI k)), (4, .int (nI t))] → W p l e { frames := 5, cells := 0, slots := 0, locals := 121 } s m ([.ref o, .int (nI k)] : List Value).toArray below meth c H locs 0 0 (MQ below (zQ D (zEq none [(o, .inr (3, [.ref ro, .int (nI rc), .ref bo, .ref so, .ref la, .ref lb])), (ro, .inl (cJ, 2000, .inr (.inl rq))), (bo, .inr (0, [.ref hw, .int (nI ((p_wb rq rc k x).1.2))])), (hw, .inl (cJ, 2500, .inr (.inl ((p_wb rq rc k x).1.1)))), (la, .inr (1, [.int (nI bc), .ref hl1, .ref hi1, .ref hs1])), (hl1, .inl (cJ, 32, .inr (.inl ((p_wb rq rc k x).2.1)))), (hi1, .inl (cI, 128, .inl ((p_wb rq rc k x).2.2.1))), (hs1, .inl (cI, 128, .inl ((p_wb rq rc k x).2.2.2)))]) A) ([.ref o, .int (nI k)] : List Value).toArray s 0 0 A) (F0 m 30 ls []) := by
    intro n
    induction n with
    | zero => intro t h1 hmu; exact absurd hmu (Nat.not_lt_zero _)
    | succ n ih =>
      intro t h1 hmu H locs hP hD hS ls hl
      have u5 := u2 t
      have ih30 := ih
      refine lv_iload hx hb d_DeltaRows_writeBlock_30 (lv_at hl 2 rfl) ?_
      refine lv_iconst (v := nI 4) hx hb d_DeltaRows_writeBlock_32 (by decide +kernel) ?_
      refine zn_ge (a := t) (b := 4) (by omega) (by omega) hx hb d_DeltaRows_writeBlock_33 (tgt := 77) (by decide) (fun c_33 => ?_) (fun c_33 => ?_)
      · skip
        refine lv_iconst (v := nI 0) hx hb d_DeltaRows_writeBlock_77 (by decide +kernel) ?_
        refine lv_istore (lv' := [(4, .int (nI 0)), (0, .ref o), (1, .int (nI k))]) hx hb d_DeltaRows_writeBlock_78 hl (by decide) rfl (fun ls hl => ?_)
        have hlp80 : ∀ (n : Nat) (t : Nat), (t ≤ 4) → 4 - t < n → ∀ (H : Heap) (locs : List Loc), va_P D classes [(o, .inr (3, [.ref ro, .int (nI rc), .ref bo, .ref so, .ref la, .ref lb])), (ro, .inl (cJ, 2000, .inr (.inl rq))), (bo, .inr (0, [.ref hw, .int (nI ((p_wbp rq rc (p_ld rq rc k) k t ((p_wbw rq rc (p_ld rq rc k) k 4 ((p_av x.1 (p_zig (p_ld rq rc k))), x.2.2.1)).1, x.2.2.2)).1.2))])), (hw, .inl (cJ, 2500, .inr (.inl ((p_wbp rq rc (p_ld rq rc k) k t ((p_wbw rq rc (p_ld rq rc k) k 4 ((p_av x.1 (p_zig (p_ld rq rc k))), x.2.2.1)).1, x.2.2.2)).1.1)))), (la, .inr (1, [.int (nI bc), .ref hl1, .ref hi1, .ref hs1])), (hl1, .inl (cJ, 32, .inr (.inl (vp_updL x.2.1 k (p_ld rq rc k))))), (hi1, .inl (cI, 128, .inl ((p_wbw rq rc (p_ld rq rc k) k 4 ((p_av x.1 (p_zig (p_ld rq rc k))), x.2.2.1)).2))), (hs1, .inl (cI, 128, .inl ((p_wbp rq rc (p_ld rq rc k) k t ((p_wbw rq rc (p_ld rq rc k) k 4 ((p_av x.1 (p_zig (p_ld rq rc k))), x.2.2.1)).1, x.2.2.2)).2)))] H → va_D A [(o, .inr (3, [.ref ro, .int (nI rc), .ref bo, .ref so, .ref la, .ref lb])), (ro, .inl (cJ, 2000, .inr (.inl rq))), (bo, .inr (0, [.ref hw, .int (nI ((p_wbp rq rc (p_ld rq rc k) k t ((p_wbw rq rc (p_ld rq rc k) k 4 ((p_av x.1 (p_zig (p_ld rq rc k))), x.2.2.1)).1, x.2.2.2)).1.2))])), (hw, .inl (cJ, 2500, .inr (.inl ((p_wbp rq rc (p_ld rq rc k) k t ((p_wbw rq rc (p_ld rq rc k) k 4 ((p_av x.1 (p_zig (p_ld rq rc k))), x.2.2.1)).1, x.2.2.2)).1.1)))), (la, .inr (1, [.int (nI bc), .ref hl1, .ref hi1, .ref hs1])), (hl1, .inl (cJ, 32, .inr (.inl (vp_updL x.2.1 k (p_ld rq rc k))))), (hi1, .inl (cI, 128, .inl ((p_wbw rq rc (p_ld rq rc k) k 4 ((p_av x.1 (p_zig (p_ld rq rc k))), x.2.2.1)).2))), (hs1, .inl (cI, 128, .inl ((p_wbp rq rc (p_ld rq rc k) k t ((p_wbw rq rc (p_ld rq rc k) k 4 ((p_av x.1 (p_zig (p_ld rq rc k))), x.2.2.1)).1, x.2.2.2)).2)))] → va_S A s.heap H locs → ∀ (ls : Array Slot), lv_has ls 6 [(0, .ref o), (1, .int (nI k)), (4, .int (nI t))] → W p l e { frames := 5, cells := 0, slots := 0, locals := 121 } s m ([.ref o, .int (nI k)] : List Value).toArray below meth c H locs 0 0 (MQ below (zQ D (zEq none [(o, .inr (3, [.ref ro, .int (nI rc), .ref bo, .ref so, .ref la, .ref lb])), (ro, .inl (cJ, 2000, .inr (.inl rq))), (bo, .inr (0, [.ref hw, .int (nI ((p_wb rq rc k x).1.2))])), (hw, .inl (cJ, 2500, .inr (.inl ((p_wb rq rc k x).1.1)))), (la, .inr (1, [.int (nI bc), .ref hl1, .ref hi1, .ref hs1])), (hl1, .inl (cJ, 32, .inr (.inl ((p_wb rq rc k x).2.1)))), (hi1, .inl (cI, 128, .inl ((p_wb rq rc k x).2.2.1))), (hs1, .inl (cI, 128, .inl ((p_wb rq rc k x).2.2.2)))]) A) ([.ref o, .int (nI k)] : List Value).toArray s 0 0 A) (F0 m 80 ls []) := by
          intro n
          induction n with
          | zero => intro t h1 hmu; exact absurd hmu (Nat.not_lt_zero _)
          | succ n ih =>
            intro t h1 hmu H locs hP hD hS ls hl
            have u5 := u3 t
            have ih80 := ih
            refine lv_iload hx hb d_DeltaRows_writeBlock_80 (lv_at hl 2 rfl) ?_
            refine lv_iconst (v := nI 4) hx hb d_DeltaRows_writeBlock_82 (by decide +kernel) ?_
            refine zn_ge (a := t) (b := 4) (by omega) (by omega) hx hb d_DeltaRows_writeBlock_83 (tgt := 120) (by decide) (fun c_83 => ?_) (fun c_83 => ?_)
            · skip
              exact z_vret hx hb hr hlocks hS hP hD ⟨rfl, by rw [show t = 4 by omega]; rfl⟩ d_DeltaRows_writeBlock_120
            · skip
              refine lv_aload_n hx hb d_DeltaRows_writeBlock_86 rfl (lv_at hl 0 rfl) ?_
              refine g_DeltaRows_36 hx hb hts hown hK hP 0 rfl rfl d_DeltaRows_writeBlock_87 ?_
              refine g_DeltaRows_109 hx hb hts hown hK hP 4 rfl rfl d_DeltaRows_writeBlock_90 ?_
              refine lv_iload_n hx hb d_DeltaRows_writeBlock_93 rfl (lv_at hl 1 rfl) ?_
              refine lv_iconst (v := nI 4) hx hb d_DeltaRows_writeBlock_94 (by decide +kernel) ?_
              refine lv_imul hx hb d_DeltaRows_writeBlock_95 (z_i (pk_mul k 4) ?_)
              refine lv_iload hx hb d_DeltaRows_writeBlock_96 (lv_at hl 2 rfl) ?_
              refine lv_iadd hx hb d_DeltaRows_writeBlock_98 (z_i (nI_add (k * 4) t) ?_)
              refine lv_aload_n hx hb d_DeltaRows_writeBlock_99 rfl (lv_at hl 0 rfl) ?_
              refine g_DeltaRows_20 hx hb hts hown hK hP 0 rfl rfl d_DeltaRows_writeBlock_100 ?_
              refine g_DeltaRows_65 hx hb hts hown hK hP 2 rfl rfl d_DeltaRows_writeBlock_103 ?_
              refine z_iast (w2 := [(o, .inr (3, [.ref ro, .int (nI rc), .ref bo, .ref so, .ref la, .ref lb])), (ro, .inl (cJ, 2000, .inr (.inl rq))), (bo, .inr (0, [.ref hw, .int (nI ((p_wbp rq rc (p_ld rq rc k) k t ((p_wbw rq rc (p_ld rq rc k) k 4 ((p_av x.1 (p_zig (p_ld rq rc k))), x.2.2.1)).1, x.2.2.2)).1.2))])), (hw, .inl (cJ, 2500, .inr (.inl ((p_wbp rq rc (p_ld rq rc k) k t ((p_wbw rq rc (p_ld rq rc k) k 4 ((p_av x.1 (p_zig (p_ld rq rc k))), x.2.2.1)).1, x.2.2.2)).1.1)))), (la, .inr (1, [.int (nI bc), .ref hl1, .ref hi1, .ref hs1])), (hl1, .inl (cJ, 32, .inr (.inl (vp_updL x.2.1 k (p_ld rq rc k))))), (hi1, .inl (cI, 128, .inl ((p_wbw rq rc (p_ld rq rc k) k 4 ((p_av x.1 (p_zig (p_ld rq rc k))), x.2.2.1)).2))), (hs1, .inl (cI, 128, .inl (upd ((p_wbp rq rc (p_ld rq rc k) k t ((p_wbw rq rc (p_ld rq rc k) k 4 ((p_av x.1 (p_zig (p_ld rq rc k))), x.2.2.1)).1, x.2.2.2)).2) (k * 4 + t) (nI ((p_wbp rq rc (p_ld rq rc k) k t ((p_wbw rq rc (p_ld rq rc k) k 4 ((p_av x.1 (p_zig (p_ld rq rc k))), x.2.2.1)).1, x.2.2.2)).1.2)))))]) hx hb hK hP hD hS 7 0 rfl rfl (by omega) (by decide) d_DeltaRows_writeBlock_106 rfl (fun H locs hP hD hS => ?_)
              refine lv_aload_n hx hb d_DeltaRows_writeBlock_107 rfl (lv_at hl 0 rfl) ?_
              refine lv_iload_n hx hb d_DeltaRows_writeBlock_108 rfl (lv_at hl 1 rfl) ?_
              refine lv_iload hx hb d_DeltaRows_writeBlock_109 (lv_at hl 2 rfl) ?_
              refine z_callEv (wr := [(hs1, .inl (cI, 128, .inl (upd ((p_wbp rq rc (p_ld rq rc k) k t ((p_wbw rq rc (p_ld rq rc k) k 4 ((p_av x.1 (p_zig (p_ld rq rc k))), x.2.2.1)).1, x.2.2.2)).2) (k * 4 + t) (nI ((p_wbp rq rc (p_ld rq rc k) k t ((p_wbw rq rc (p_ld rq rc k) k 4 ((p_av x.1 (p_zig (p_ld rq rc k))), x.2.2.1)).1, x.2.2.2)).1.2)))))]) (w2 := [(o, .inr (3, [.ref ro, .int (nI rc), .ref bo, .ref so, .ref la, .ref lb])), (ro, .inl (cJ, 2000, .inr (.inl rq))), (bo, .inr (0, [.ref hw, .int (nI ((p_wp rq rc (p_ld rq rc k) (p_wd rq rc (p_ld rq rc k) k t) k t ((p_wbp rq rc (p_ld rq rc k) k t ((p_wbw rq rc (p_ld rq rc k) k 4 ((p_av x.1 (p_zig (p_ld rq rc k))), x.2.2.1)).1, x.2.2.2)).1)).2))])), (hw, .inl (cJ, 2500, .inr (.inl ((p_wp rq rc (p_ld rq rc k) (p_wd rq rc (p_ld rq rc k) k t) k t ((p_wbp rq rc (p_ld rq rc k) k t ((p_wbw rq rc (p_ld rq rc k) k 4 ((p_av x.1 (p_zig (p_ld rq rc k))), x.2.2.1)).1, x.2.2.2)).1)).1)))), (la, .inr (1, [.int (nI bc), .ref hl1, .ref hi1, .ref hs1])), (hl1, .inl (cJ, 32, .inr (.inl (vp_updL x.2.1 k (p_ld rq rc k))))), (hi1, .inl (cI, 128, .inl ((p_wbw rq rc (p_ld rq rc k) k 4 ((p_av x.1 (p_zig (p_ld rq rc k))), x.2.2.1)).2))), (hs1, .inl (cI, 128, .inl (upd ((p_wbp rq rc (p_ld rq rc k) k t ((p_wbw rq rc (p_ld rq rc k) k 4 ((p_av x.1 (p_zig (p_ld rq rc k))), x.2.2.1)).1, x.2.2.2)).2) (k * 4 + t) (nI ((p_wbp rq rc (p_ld rq rc k) k t ((p_wbw rq rc (p_ld rq rc k) k 4 ((p_av x.1 (p_zig (p_ld rq rc k))), x.2.2.1)).1, x.2.2.2)).1.2)))))]) (z_runV (rest := []) hx hb hml hown hts hK hN (c_DeltaRows_writePart l D cI cJ o ro bo so la lb rc rq hl1 hi1 hs1 bc hw ((p_wbp rq rc (p_ld rq rc k) k t ((p_wbw rq rc (p_ld rq rc k) k 4 ((p_av x.1 (p_zig (p_ld rq rc k))), x.2.2.1)).1, x.2.2.2)).1) (vp_updL x.2.1 k (p_ld rq rc k)) ((p_wbw rq rc (p_ld rq rc k) k 4 ((p_av x.1 (p_zig (p_ld rq rc k))), x.2.2.1)).2) (p_ld rq rc k) (p_wd rq rc (p_ld rq rc k) k t) k t (by (try dsimp only); omega) (by (try dsimp only); omega) (by (try dsimp only); omega) pk_uLs (p_wbw_at c_83) (p_wd_le _ _ _ _ _) (by (try dsimp only); omega)) kk_DeltaRows_120 (zP.cut hP [0, 1, 2, 3, 4, 5, 6] rfl) (hD.sub [0, 1, 2, 3, 4, 5, 6] (by decide) rfl) 0 rfl rfl rfl hl.1 rfl (Nat.le_of_ble_eq_true rfl) d_DeltaRows_writeBlock_111 (by decide) (by decide)) hP hD hS hA [0, 1, 2, 3, 4, 5, 6] [7] [1, 2, 3, 4, 5, 6, 7, 0] rfl rfl (by decide) (by decide) (by decide) rfl (fun H locs hP hD hS => ?_)
              refine lv_iinc (v := nI (t + 1)) (lv' := [(4, .int (nI (t + 1))), (0, .ref o), (1, .int (nI k))]) hx hb d_DeltaRows_writeBlock_114 hl (k := 2) rfl (zinc t 1) (by decide) rfl (fun ls hl => ?_)
              refine lv_goto (tgt := 80) hx hb d_DeltaRows_writeBlock_117 (by decide) ?_
              exact ih80 (t + 1) (by omega) (by omega) _ _ hP hD hS ls (lv_sub hl [1, 2, 0] rfl)
        exact hlp80 _ 0 (by decide) (Nat.lt_succ_self _) _ _ (by rw [show t = 4 by omega] at hP; exact hP) (by rw [show t = 4 by omega] at hD; exact hD) hS ls (lv_sub hl [1, 2, 0] rfl)
      · skip
        refine lv_aload_n hx hb d_DeltaRows_writeBlock_36 rfl (lv_at hl 0 rfl) ?_
        refine lv_iload_n hx hb d_DeltaRows_writeBlock_37 rfl (lv_at hl 1 rfl) ?_
        refine lv_iload hx hb d_DeltaRows_writeBlock_38 (lv_at hl 2 rfl) ?_
        refine z_callEi (wr := [(bo, .inr (0, [.ref hw, .int (nI ((p_wbw rq rc (p_ld rq rc k) k t ((p_av x.1 (p_zig (p_ld rq rc k))), x.2.2.1)).1.2))])), (hw, .inl (cJ, 2500, .inr (.inl ((p_wbw rq rc (p_ld rq rc k) k t ((p_av x.1 (p_zig (p_ld rq rc k))), x.2.2.1)).1.1)))), (hi1, .inl (cI, 128, .inl ((p_wbw rq rc (p_ld rq rc k) k t ((p_av x.1 (p_zig (p_ld rq rc k))), x.2.2.1)).2))), (hs1, .inl (cI, 128, .inl x.2.2.2))]) (w2 := [(o, .inr (3, [.ref ro, .int (nI rc), .ref bo, .ref so, .ref la, .ref lb])), (ro, .inl (cJ, 2000, .inr (.inl rq))), (bo, .inr (0, [.ref hw, .int (nI ((p_wbw rq rc (p_ld rq rc k) k t ((p_av x.1 (p_zig (p_ld rq rc k))), x.2.2.1)).1.2))])), (hw, .inl (cJ, 2500, .inr (.inl ((p_wbw rq rc (p_ld rq rc k) k t ((p_av x.1 (p_zig (p_ld rq rc k))), x.2.2.1)).1.1)))), (la, .inr (1, [.int (nI bc), .ref hl1, .ref hi1, .ref hs1])), (hl1, .inl (cJ, 32, .inr (.inl (vp_updL x.2.1 k (p_ld rq rc k))))), (hi1, .inl (cI, 128, .inl ((p_wbw rq rc (p_ld rq rc k) k t ((p_av x.1 (p_zig (p_ld rq rc k))), x.2.2.1)).2))), (hs1, .inl (cI, 128, .inl x.2.2.2))]) (z_runV (rest := []) hx hb hml hown hts hK hN (c_DeltaRows_neededWidth l D cI cJ o ro bo so la lb rc rq hl1 hi1 hs1 bc (vp_updL x.2.1 k (p_ld rq rc k)) (p_ld rq rc k) k t (by (try dsimp only); omega) (by (try dsimp only); omega) (by (try dsimp only); omega) pk_uLs) kk_DeltaRows_116 (zP.cut hP [0, 1, 4, 5] rfl) (hD.sub [0, 1, 4, 5] (by decide) rfl) 0 rfl rfl rfl hl.1 rfl (Nat.le_of_ble_eq_true rfl) d_DeltaRows_writeBlock_40 (by decide) (by decide)) hP hD hS hA [0, 1, 4, 5] [2, 3, 6, 7] [4, 5, 0, 1, 6, 7, 2, 3] rfl rfl (by decide) (by decide) (by decide) rfl (fun H locs hP hD hS => ?_)
        refine lv_istore (lv' := [(5, .int (nI (p_wd rq rc (p_ld rq rc k) k t))), (0, .ref o), (1, .int (nI k)), (4, .int (nI t))]) hx hb d_DeltaRows_writeBlock_43 hl (by decide) rfl (fun ls hl => ?_)
        refine lv_aload_n hx hb d_DeltaRows_writeBlock_45 rfl (lv_at hl 1 rfl) ?_
        refine g_DeltaRows_36 hx hb hts hown hK hP 0 rfl rfl d_DeltaRows_writeBlock_46 ?_
        refine g_DeltaRows_105 hx hb hts hown hK hP 4 rfl rfl d_DeltaRows_writeBlock_49 ?_
        refine lv_iload_n hx hb d_DeltaRows_writeBlock_52 rfl (lv_at hl 2 rfl) ?_
        refine lv_iconst (v := nI 4) hx hb d_DeltaRows_writeBlock_53 (by decide +kernel) ?_
        refine lv_imul hx hb d_DeltaRows_writeBlock_54 (z_i (pk_mul k 4) ?_)
        refine lv_iload hx hb d_DeltaRows_writeBlock_55 (lv_at hl 3 rfl) ?_
        refine lv_iadd hx hb d_DeltaRows_writeBlock_57 (z_i (nI_add (k * 4) t) ?_)
        refine lv_iload hx hb d_DeltaRows_writeBlock_58 (lv_at hl 0 rfl) ?_
        refine z_iast (w2 := [(o, .inr (3, [.ref ro, .int (nI rc), .ref bo, .ref so, .ref la, .ref lb])), (ro, .inl (cJ, 2000, .inr (.inl rq))), (bo, .inr (0, [.ref hw, .int (nI ((p_wbw rq rc (p_ld rq rc k) k t ((p_av x.1 (p_zig (p_ld rq rc k))), x.2.2.1)).1.2))])), (hw, .inl (cJ, 2500, .inr (.inl ((p_wbw rq rc (p_ld rq rc k) k t ((p_av x.1 (p_zig (p_ld rq rc k))), x.2.2.1)).1.1)))), (la, .inr (1, [.int (nI bc), .ref hl1, .ref hi1, .ref hs1])), (hl1, .inl (cJ, 32, .inr (.inl (vp_updL x.2.1 k (p_ld rq rc k))))), (hi1, .inl (cI, 128, .inl (upd ((p_wbw rq rc (p_ld rq rc k) k t ((p_av x.1 (p_zig (p_ld rq rc k))), x.2.2.1)).2) (k * 4 + t) (nI (p_wd rq rc (p_ld rq rc k) k t))))), (hs1, .inl (cI, 128, .inl x.2.2.2))]) hx hb hK hP hD hS 6 0 rfl rfl (by omega) (by decide) d_DeltaRows_writeBlock_60 rfl (fun H locs hP hD hS => ?_)
        refine lv_aload_n hx hb d_DeltaRows_writeBlock_61 rfl (lv_at hl 1 rfl) ?_
        refine g_DeltaRows_20 hx hb hts hown hK hP 0 rfl rfl d_DeltaRows_writeBlock_62 ?_
        refine lv_iload hx hb d_DeltaRows_writeBlock_65 (lv_at hl 0 rfl) ?_
        refine z_callEi (wr := [(o, .inr (3, [.ref ro, .int (nI rc), .ref bo, .ref so, .ref la, .ref lb])), (ro, .inl (cJ, 2000, .inr (.inl rq))), (la, .inr (1, [.int (nI bc), .ref hl1, .ref hi1, .ref hs1])), (hl1, .inl (cJ, 32, .inr (.inl (vp_updL x.2.1 k (p_ld rq rc k))))), (hi1, .inl (cI, 128, .inl (upd ((p_wbw rq rc (p_ld rq rc k) k t ((p_av x.1 (p_zig (p_ld rq rc k))), x.2.2.1)).2) (k * 4 + t) (nI (p_wd rq rc (p_ld rq rc k) k t))))), (hs1, .inl (cI, 128, .inl x.2.2.2))]) (w2 := [(o, .inr (3, [.ref ro, .int (nI rc), .ref bo, .ref so, .ref la, .ref lb])), (ro, .inl (cJ, 2000, .inr (.inl rq))), (bo, .inr (0, [.ref hw, .int (nI ((p_add ((p_wbw rq rc (p_ld rq rc k) k t ((p_av x.1 (p_zig (p_ld rq rc k))), x.2.2.1)).1) (nI (p_wd rq rc (p_ld rq rc k) k t))).2))])), (hw, .inl (cJ, 2500, .inr (.inl ((p_add ((p_wbw rq rc (p_ld rq rc k) k t ((p_av x.1 (p_zig (p_ld rq rc k))), x.2.2.1)).1) (nI (p_wd rq rc (p_ld rq rc k) k t))).1)))), (la, .inr (1, [.int (nI bc), .ref hl1, .ref hi1, .ref hs1])), (hl1, .inl (cJ, 32, .inr (.inl (vp_updL x.2.1 k (p_ld rq rc k))))), (hi1, .inl (cI, 128, .inl (upd ((p_wbw rq rc (p_ld rq rc k) k t ((p_av x.1 (p_zig (p_ld rq rc k))), x.2.2.1)).2) (k * 4 + t) (nI (p_wd rq rc (p_ld rq rc k) k t))))), (hs1, .inl (cI, 128, .inl x.2.2.2))]) (z_runV (rest := []) hx hb hml hown hts hK hN (c_ByteRow_add l D cI cJ bo hw ((p_wbw rq rc (p_ld rq rc k) k t ((p_av x.1 (p_zig (p_ld rq rc k))), x.2.2.1)).1) (nI (p_wd rq rc (p_ld rq rc k) k t)) (by (try dsimp only); omega)) kk_DeltaRows_92 (zP.cut hP [2, 3] rfl) (hD.sub [2, 3] (by decide) rfl) 0 rfl rfl rfl hl.1 rfl (Nat.le_of_ble_eq_true rfl) d_DeltaRows_writeBlock_67 (by decide) (by decide)) hP hD hS hA [2, 3] [0, 1, 4, 5, 6, 7] [0, 1, 6, 7, 2, 3, 4, 5] rfl rfl (by decide) (by decide) (by decide) rfl (fun H locs hP hD hS => ?_)
        refine lv_pop hx hb d_DeltaRows_writeBlock_70 rfl ?_
        refine lv_iinc (v := nI (t + 1)) (lv' := [(4, .int (nI (t + 1))), (5, .int (nI (p_wd rq rc (p_ld rq rc k) k t))), (0, .ref o), (1, .int (nI k))]) hx hb d_DeltaRows_writeBlock_71 hl (k := 3) rfl (zinc t 1) (by decide) rfl (fun ls hl => ?_)
        refine lv_goto (tgt := 30) hx hb d_DeltaRows_writeBlock_74 (by decide) ?_
        exact ih30 (t + 1) (by omega) (by omega) _ _ hP hD hS ls (lv_sub hl [2, 3, 0] rfl)
  exact hlp30 _ 0 (by decide) (Nat.lt_succ_self _) _ _ hP hD hS ls (lv_sub hl [2, 3, 0] rfl)

set_option maxHeartbeats 4000000 in
set_option maxRecDepth 100000 in
theorem c_DeltaRows_write (l : Launch) (D : va_G) (cI cJ : ClassId) (o : Nat) (ro : Nat) (bo : Nat) (so : Nat) (la : Nat) (lb : Nat) (rc : Nat) (rq : Nat → Int64) (hl1 : Nat) (hi1 : Nat) (hs1 : Nat) (bc : Nat) (hw : Nat) (x : WW) (hrc : rc ≤ 2000) (hu : x.1.2 ≤ 20000) : Ct l D (zT cI cJ) y_DeltaRows_write b_DeltaRows_write 2 (some .int) 6 146 0 0 [.ref o] [(o, .inr (3, [.ref ro, .int (nI rc), .ref bo, .ref so, .ref la, .ref lb])), (ro, .inl (cJ, 2000, .inr (.inl rq))), (bo, .inr (0, [.ref hw, .int (nI x.1.2)])), (hw, .inl (cJ, 2500, .inr (.inl x.1.1))), (la, .inr (1, [.int (nI bc), .ref hl1, .ref hi1, .ref hs1])), (hl1, .inl (cJ, 32, .inr (.inl x.2.1))), (hi1, .inl (cI, 128, .inl x.2.2.1)), (hs1, .inl (cI, 128, .inl x.2.2.2))] (zEq (some (.int (nI ((p_write rq rc x).1.2)))) [(o, .inr (3, [.ref ro, .int (nI rc), .ref bo, .ref so, .ref la, .ref lb])), (ro, .inl (cJ, 2000, .inr (.inl rq))), (bo, .inr (0, [.ref hw, .int (nI ((p_write rq rc x).1.2))])), (hw, .inl (cJ, 2500, .inr (.inl ((p_write rq rc x).1.1)))), (la, .inr (1, [.int (nI (p_bf rc)), .ref hl1, .ref hi1, .ref hs1])), (hl1, .inl (cJ, 32, .inr (.inl ((p_write rq rc x).2.1)))), (hi1, .inl (cI, 128, .inl ((p_write rq rc x).2.2.1))), (hs1, .inl (cI, 128, .inl ((p_write rq rc x).2.2.2)))]) := by
  refine Ct.ofW (by decide) (Nat.le_of_ble_eq_true rfl) ?_
  intro p e s m below meth c A ls C0 hP hD hS hl
  obtain ⟨hx, hb, hml, hown, hts, hK, hN, hr, hlocks, hA, hnm⟩ := C0
  have hl : lv_has ls 2 [(0, .ref o)] := hl
  have hown : s.vm.findClass R_DeltaRows = some m.cls := hown
  have hk3 := p_bf_le hrc
  have v1 := p_av_le1 (b := (x.1.1, 0)) (v := (nI rc).toInt64)
  have v2 := p_av_le1 (b := p_av (x.1.1, 0) (nI rc).toInt64) (v := p_zig (rq 0))
  have v3 : ((if 0 < rc then p_av (p_av (x.1.1, 0) (nI rc).toInt64) (p_zig (rq 0)) else p_av (x.1.1, 0) (nI rc).toInt64, x.2)).1.2 ≤ 20 := by dsimp only at *; split <;> omega
  have v4 := fun t => p_wbs_le (rq := rq) (rc := rc) (x := (if 0 < rc then p_av (p_av (x.1.1, 0) (nI rc).toInt64) (p_zig (rq 0)) else p_av (x.1.1, 0) (nI rc).toInt64, x.2)) t
  refine lv_aload_n hx hb d_DeltaRows_write_0 rfl (lv_at hl 0 rfl) ?_
  refine g_DeltaRows_20 hx hb hts hown hK hP 0 rfl rfl d_DeltaRows_write_1 ?_
  refine lv_iconst (v := nI 0) hx hb d_DeltaRows_write_4 (by decide +kernel) ?_
  refine z_callEv (wr := [(o, .inr (3, [.ref ro, .int (nI rc), .ref bo, .ref so, .ref la, .ref lb])), (ro, .inl (cJ, 2000, .inr (.inl rq))), (hw, .inl (cJ, 2500, .inr (.inl x.1.1))), (la, .inr (1, [.int (nI bc), .ref hl1, .ref hi1, .ref hs1])), (hl1, .inl (cJ, 32, .inr (.inl x.2.1))), (hi1, .inl (cI, 128, .inl x.2.2.1)), (hs1, .inl (cI, 128, .inl x.2.2.2))]) (w2 := [(o, .inr (3, [.ref ro, .int (nI rc), .ref bo, .ref so, .ref la, .ref lb])), (ro, .inl (cJ, 2000, .inr (.inl rq))), (bo, .inr (0, [.ref hw, .int (nI 0)])), (hw, .inl (cJ, 2500, .inr (.inl x.1.1))), (la, .inr (1, [.int (nI bc), .ref hl1, .ref hi1, .ref hs1])), (hl1, .inl (cJ, 32, .inr (.inl x.2.1))), (hi1, .inl (cI, 128, .inl x.2.2.1)), (hs1, .inl (cI, 128, .inl x.2.2.2))]) (z_runV (rest := []) hx hb hml hown hts hK hN (c_ByteRow_shorten l D cI cJ bo hw x.1.2 0 ) kk_DeltaRows_43 (zP.cut hP [2] rfl) (hD.sub [2] (by decide) rfl) 0 rfl rfl rfl hl.1 rfl (Nat.le_of_ble_eq_true rfl) d_DeltaRows_write_5 (by decide) (by decide)) hP hD hS hA [2] [0, 1, 3, 4, 5, 6, 7] [0, 1, 7, 2, 3, 4, 5, 6] rfl rfl (by decide) (by decide) (by decide) rfl (fun H locs hP hD hS => ?_)
  refine lv_aload_n hx hb d_DeltaRows_write_8 rfl (lv_at hl 0 rfl) ?_
  refine g_DeltaRows_20 hx hb hts hown hK hP 0 rfl rfl d_DeltaRows_write_9 ?_
  refine lv_aload_n hx hb d_DeltaRows_write_12 rfl (lv_at hl 0 rfl) ?_
  refine g_DeltaRows_13 hx hb hts hown hK hP 0 rfl rfl d_DeltaRows_write_13 ?_
  refine lv_i2l (v := (nI rc).toInt64) hx hb d_DeltaRows_write_16 rfl ?_
  refine z_callEv (wr := [(o, .inr (3, [.ref ro, .int (nI rc), .ref bo, .ref so, .ref la, .ref lb])), (ro, .inl (cJ, 2000, .inr (.inl rq))), (la, .inr (1, [.int (nI bc), .ref hl1, .ref hi1, .ref hs1])), (hl1, .inl (cJ, 32, .inr (.inl x.2.1))), (hi1, .inl (cI, 128, .inl x.2.2.1)), (hs1, .inl (cI, 128, .inl x.2.2.2))]) (w2 := [(o, .inr (3, [.ref ro, .int (nI rc), .ref bo, .ref so, .ref la, .ref lb])), (ro, .inl (cJ, 2000, .inr (.inl rq))), (bo, .inr (0, [.ref hw, .int (nI ((p_av (x.1.1, 0) ((nI rc).toInt64)).2))])), (hw, .inl (cJ, 2500, .inr (.inl ((p_av (x.1.1, 0) ((nI rc).toInt64)).1)))), (la, .inr (1, [.int (nI bc), .ref hl1, .ref hi1, .ref hs1])), (hl1, .inl (cJ, 32, .inr (.inl x.2.1))), (hi1, .inl (cI, 128, .inl x.2.2.1)), (hs1, .inl (cI, 128, .inl x.2.2.2))]) (z_runV (rest := []) hx hb hml hown hts hK hN (c_ByteRow_addVarint l D cI cJ bo hw (x.1.1, 0) ((nI rc).toInt64) (by (try dsimp only); omega)) kk_DeltaRows_47 (zP.cut hP [2, 3] rfl) (hD.sub [2, 3] (by decide) rfl) 0 rfl rfl rfl hl.1 rfl (Nat.le_of_ble_eq_true rfl) d_DeltaRows_write_17 (by decide) (by decide)) hP hD hS hA [2, 3] [0, 1, 4, 5, 6, 7] [0, 1, 6, 7, 2, 3, 4, 5] rfl rfl (by decide) (by decide) (by decide) rfl (fun H locs hP hD hS => ?_)
  refine lv_aload_n hx hb d_DeltaRows_write_20 rfl (lv_at hl 0 rfl) ?_
  refine g_DeltaRows_13 hx hb hts hown hK hP 0 rfl rfl d_DeltaRows_write_21 ?_
  refine z0_le (a := rc) (by omega) hx hb d_DeltaRows_write_24 (tgt := 43) (by decide) (fun c_24 => ?_) (fun c_24 => ?_)
  · skip
    refine lv_aload_n hx hb d_DeltaRows_write_43 rfl (lv_at hl 0 rfl) ?_
    refine g_DeltaRows_36 hx hb hts hown hK hP 0 rfl rfl d_DeltaRows_write_44 ?_
    refine lv_aload_n hx hb d_DeltaRows_write_47 rfl (lv_at hl 0 rfl) ?_
    refine g_DeltaRows_13 hx hb hts hown hK hP 0 rfl rfl d_DeltaRows_write_48 ?_
    refine z_callEi (wr := [(o, .inr (3, [.ref ro, .int (nI rc), .ref bo, .ref so, .ref la, .ref lb])), (ro, .inl (cJ, 2000, .inr (.inl rq))), (bo, .inr (0, [.ref hw, .int (nI ((p_av (x.1.1, 0) ((nI rc).toInt64)).2))])), (hw, .inl (cJ, 2500, .inr (.inl ((p_av (x.1.1, 0) ((nI rc).toInt64)).1)))), (la, .inr (1, [.int (nI bc), .ref hl1, .ref hi1, .ref hs1])), (hl1, .inl (cJ, 32, .inr (.inl x.2.1))), (hi1, .inl (cI, 128, .inl x.2.2.1)), (hs1, .inl (cI, 128, .inl x.2.2.2))]) (w2 := [(o, .inr (3, [.ref ro, .int (nI rc), .ref bo, .ref so, .ref la, .ref lb])), (ro, .inl (cJ, 2000, .inr (.inl rq))), (bo, .inr (0, [.ref hw, .int (nI ((p_av (x.1.1, 0) ((nI rc).toInt64)).2))])), (hw, .inl (cJ, 2500, .inr (.inl ((p_av (x.1.1, 0) ((nI rc).toInt64)).1)))), (la, .inr (1, [.int (nI bc), .ref hl1, .ref hi1, .ref hs1])), (hl1, .inl (cJ, 32, .inr (.inl x.2.1))), (hi1, .inl (cI, 128, .inl x.2.2.1)), (hs1, .inl (cI, 128, .inl x.2.2.2))]) (z_runS (rest := [.ref la]) hx hb hml hown hts hK hN (c_DeltaRows_blocksFor l D cI cJ rc (by (try dsimp only); omega)) kk_DeltaRows_55 (zP.cut hP [] rfl) (hD.sub [] (by decide) rfl) rfl hl.1 rfl (Nat.le_of_ble_eq_true rfl) d_DeltaRows_write_51 (by decide) (by decide)) hP hD hS hA [] [0, 1, 2, 3, 4, 5, 6, 7] [0, 1, 2, 3, 4, 5, 6, 7] rfl rfl (by decide) (by decide) (by decide) rfl (fun H locs hP hD hS => ?_)
    refine p_DeltaRows_59 (w2 := [(o, .inr (3, [.ref ro, .int (nI rc), .ref bo, .ref so, .ref la, .ref lb])), (ro, .inl (cJ, 2000, .inr (.inl rq))), (bo, .inr (0, [.ref hw, .int (nI ((p_av (x.1.1, 0) ((nI rc).toInt64)).2))])), (hw, .inl (cJ, 2500, .inr (.inl ((p_av (x.1.1, 0) ((nI rc).toInt64)).1)))), (la, .inr (1, [.int (nI (p_bf rc)), .ref hl1, .ref hi1, .ref hs1])), (hl1, .inl (cJ, 32, .inr (.inl x.2.1))), (hi1, .inl (cI, 128, .inl x.2.2.1)), (hs1, .inl (cI, 128, .inl x.2.2.2))]) hx hb hts hown hK hP hD hS 4 rfl (Nat.le_of_ble_eq_true rfl) rfl d_DeltaRows_write_54 (fun H locs hP hD hS => ?_)
    refine lv_iconst (v := nI 0) hx hb d_DeltaRows_write_57 (by decide +kernel) ?_
    refine lv_istore_n (lv' := [(1, .int (nI 0)), (0, .ref o)]) hx hb d_DeltaRows_write_58 rfl hl (by decide) rfl (fun ls hl => ?_)
    have hlp59 : ∀ (n : Nat) (t : Nat), (t ≤ p_bf rc) → p_bf rc - t < n → ∀ (H : Heap) (locs : List Loc), va_P D classes [(o, .inr (3, [.ref ro, .int (nI rc), .ref bo, .ref so, .ref la, .ref lb])), (ro, .inl (cJ, 2000, .inr (.inl rq))), (bo, .inr (0, [.ref hw, .int (nI ((p_wbs rq rc t (if 0 < rc then p_av (p_av (x.1.1, 0) (nI rc).toInt64) (p_zig (rq 0)) else p_av (x.1.1, 0) (nI rc).toInt64, x.2)).1.2))])), (hw, .inl (cJ, 2500, .inr (.inl ((p_wbs rq rc t (if 0 < rc then p_av (p_av (x.1.1, 0) (nI rc).toInt64) (p_zig (rq 0)) else p_av (x.1.1, 0) (nI rc).toInt64, x.2)).1.1)))), (la, .inr (1, [.int (nI (p_bf rc)), .ref hl1, .ref hi1, .ref hs1])), (hl1, .inl (cJ, 32, .inr (.inl ((p_wbs rq rc t (if 0 < rc then p_av (p_av (x.1.1, 0) (nI rc).toInt64) (p_zig (rq 0)) else p_av (x.1.1, 0) (nI rc).toInt64, x.2)).2.1)))), (hi1, .inl (cI, 128, .inl ((p_wbs rq rc t (if 0 < rc then p_av (p_av (x.1.1, 0) (nI rc).toInt64) (p_zig (rq 0)) else p_av (x.1.1, 0) (nI rc).toInt64, x.2)).2.2.1))), (hs1, .inl (cI, 128, .inl ((p_wbs rq rc t (if 0 < rc then p_av (p_av (x.1.1, 0) (nI rc).toInt64) (p_zig (rq 0)) else p_av (x.1.1, 0) (nI rc).toInt64, x.2)).2.2.2)))] H → va_D A [(o, .inr (3, [.ref ro, .int (nI rc), .ref bo, .ref so, .ref la, .ref lb])), (ro, .inl (cJ, 2000, .inr (.inl rq))), (bo, .inr (0, [.ref hw, .int (nI ((p_wbs rq rc t (if 0 < rc then p_av (p_av (x.1.1, 0) (nI rc).toInt64) (p_zig (rq 0)) else p_av (x.1.1, 0) (nI rc).toInt64, x.2)).1.2))])), (hw, .inl (cJ, 2500, .inr (.inl ((p_wbs rq rc t (if 0 < rc then p_av (p_av (x.1.1, 0) (nI rc).toInt64) (p_zig (rq 0)) else p_av (x.1.1, 0) (nI rc).toInt64, x.2)).1.1)))), (la, .inr (1, [.int (nI (p_bf rc)), .ref hl1, .ref hi1, .ref hs1])), (hl1, .inl (cJ, 32, .inr (.inl ((p_wbs rq rc t (if 0 < rc then p_av (p_av (x.1.1, 0) (nI rc).toInt64) (p_zig (rq 0)) else p_av (x.1.1, 0) (nI rc).toInt64, x.2)).2.1)))), (hi1, .inl (cI, 128, .inl ((p_wbs rq rc t (if 0 < rc then p_av (p_av (x.1.1, 0) (nI rc).toInt64) (p_zig (rq 0)) else p_av (x.1.1, 0) (nI rc).toInt64, x.2)).2.2.1))), (hs1, .inl (cI, 128, .inl ((p_wbs rq rc t (if 0 < rc then p_av (p_av (x.1.1, 0) (nI rc).toInt64) (p_zig (rq 0)) else p_av (x.1.1, 0) (nI rc).toInt64, x.2)).2.2.2)))] → va_S A s.heap H locs → ∀ (ls : Array Slot), lv_has ls 2 [(0, .ref o), (1, .int (nI t))] → W p l e { frames := 6, cells := 0, slots := 0, locals := 146 } s m ([.ref o] : List Value).toArray below meth c H locs 0 0 (MQ below (zQ D (zEq (some (.int (nI ((p_write rq rc x).1.2)))) [(o, .inr (3, [.ref ro, .int (nI rc), .ref bo, .ref so, .ref la, .ref lb])), (ro, .inl (cJ, 2000, .inr (.inl rq))), (bo, .inr (0, [.ref hw, .int (nI ((p_write rq rc x).1.2))])), (hw, .inl (cJ, 2500, .inr (.inl ((p_write rq rc x).1.1)))), (la, .inr (1, [.int (nI (p_bf rc)), .ref hl1, .ref hi1, .ref hs1])), (hl1, .inl (cJ, 32, .inr (.inl ((p_write rq rc x).2.1)))), (hi1, .inl (cI, 128, .inl ((p_write rq rc x).2.2.1))), (hs1, .inl (cI, 128, .inl ((p_write rq rc x).2.2.2)))]) A) ([.ref o] : List Value).toArray s 0 0 A) (F0 m 59 ls []) := by
      intro n
      induction n with
      | zero => intro t h1 hmu; exact absurd hmu (Nat.not_lt_zero _)
      | succ n ih =>
        intro t h1 hmu H locs hP hD hS ls hl
        have v5 := v4 t
        have ih59 := ih
        refine lv_iload_n hx hb d_DeltaRows_write_59 rfl (lv_at hl 1 rfl) ?_
        refine lv_aload_n hx hb d_DeltaRows_write_60 rfl (lv_at hl 0 rfl) ?_
        refine g_DeltaRows_36 hx hb hts hown hK hP 0 rfl rfl d_DeltaRows_write_61 ?_
        refine g_DeltaRows_59 hx hb hts hown hK hP 4 rfl rfl d_DeltaRows_write_64 ?_
        refine zn_ge (a := t) (b := p_bf rc) (by omega) (by omega) hx hb d_DeltaRows_write_67 (tgt := 81) (by decide) (fun c_67 => ?_) (fun c_67 => ?_)
        · skip
          refine lv_aload_n hx hb d_DeltaRows_write_81 rfl (lv_at hl 0 rfl) ?_
          refine g_DeltaRows_20 hx hb hts hown hK hP 0 rfl rfl d_DeltaRows_write_82 ?_
          refine g_DeltaRows_65 hx hb hts hown hK hP 2 rfl rfl d_DeltaRows_write_85 ?_
          exact z_iret hx hb hr hlocks hS hP hD ⟨by unfold p_write; rw [show t = p_bf rc by omega], by unfold p_write; rw [show t = p_bf rc by omega]⟩ d_DeltaRows_write_88
        · skip
          refine lv_aload_n hx hb d_DeltaRows_write_70 rfl (lv_at hl 0 rfl) ?_
          refine lv_iload_n hx hb d_DeltaRows_write_71 rfl (lv_at hl 1 rfl) ?_
          refine z_callEv (wr := []) (w2 := [(o, .inr (3, [.ref ro, .int (nI rc), .ref bo, .ref so, .ref la, .ref lb])), (ro, .inl (cJ, 2000, .inr (.inl rq))), (bo, .inr (0, [.ref hw, .int (nI ((p_wb rq rc t (p_wbs rq rc t (if 0 < rc then p_av (p_av (x.1.1, 0) (nI rc).toInt64) (p_zig (rq 0)) else p_av (x.1.1, 0) (nI rc).toInt64, x.2))).1.2))])), (hw, .inl (cJ, 2500, .inr (.inl ((p_wb rq rc t (p_wbs rq rc t (if 0 < rc then p_av (p_av (x.1.1, 0) (nI rc).toInt64) (p_zig (rq 0)) else p_av (x.1.1, 0) (nI rc).toInt64, x.2))).1.1)))), (la, .inr (1, [.int (nI (p_bf rc)), .ref hl1, .ref hi1, .ref hs1])), (hl1, .inl (cJ, 32, .inr (.inl ((p_wb rq rc t (p_wbs rq rc t (if 0 < rc then p_av (p_av (x.1.1, 0) (nI rc).toInt64) (p_zig (rq 0)) else p_av (x.1.1, 0) (nI rc).toInt64, x.2))).2.1)))), (hi1, .inl (cI, 128, .inl ((p_wb rq rc t (p_wbs rq rc t (if 0 < rc then p_av (p_av (x.1.1, 0) (nI rc).toInt64) (p_zig (rq 0)) else p_av (x.1.1, 0) (nI rc).toInt64, x.2))).2.2.1))), (hs1, .inl (cI, 128, .inl ((p_wb rq rc t (p_wbs rq rc t (if 0 < rc then p_av (p_av (x.1.1, 0) (nI rc).toInt64) (p_zig (rq 0)) else p_av (x.1.1, 0) (nI rc).toInt64, x.2))).2.2.2)))]) (z_runV (rest := []) hx hb hml hown hts hK hN (c_DeltaRows_writeBlock l D cI cJ o ro bo so la lb rc rq hl1 hi1 hs1 (p_bf rc) hw (p_wbs rq rc t (if 0 < rc then p_av (p_av (x.1.1, 0) (nI rc).toInt64) (p_zig (rq 0)) else p_av (x.1.1, 0) (nI rc).toInt64, x.2)) t (by (try dsimp only); omega) (by (try dsimp only); omega) (by (try dsimp only); omega)) kk_DeltaRows_62 (zP.cut hP [0, 1, 2, 3, 4, 5, 6, 7] rfl) (hD.sub [0, 1, 2, 3, 4, 5, 6, 7] (by decide) rfl) 0 rfl rfl rfl hl.1 rfl (Nat.le_of_ble_eq_true rfl) d_DeltaRows_write_72 (by decide) (by decide)) hP hD hS hA [0, 1, 2, 3, 4, 5, 6, 7] [] [0, 1, 2, 3, 4, 5, 6, 7] rfl rfl (by decide) (by decide) (by decide) rfl (fun H locs hP hD hS => ?_)
          refine lv_iinc (v := nI (t + 1)) (lv' := [(1, .int (nI (t + 1))), (0, .ref o)]) hx hb d_DeltaRows_write_75 hl (k := 1) rfl (zinc t 1) (by decide) rfl (fun ls hl => ?_)
          refine lv_goto (tgt := 59) hx hb d_DeltaRows_write_78 (by decide) ?_
          exact ih59 (t + 1) (by omega) (by omega) _ _ hP hD hS ls (lv_sub hl [1, 0] rfl)
    exact hlp59 _ 0 (Nat.zero_le _) (Nat.lt_succ_self _) _ _ (by first | (rw [p_wbs, if_pos c_24]; exact hP) | (rw [p_wbs, if_neg (by omega)]; exact hP)) (by first | (rw [p_wbs, if_pos c_24]; exact hD) | (rw [p_wbs, if_neg (by omega)]; exact hD)) hS ls (lv_sub hl [1, 0] rfl)
  · skip
    refine lv_aload_n hx hb d_DeltaRows_write_27 rfl (lv_at hl 0 rfl) ?_
    refine g_DeltaRows_20 hx hb hts hown hK hP 0 rfl rfl d_DeltaRows_write_28 ?_
    refine lv_aload_n hx hb d_DeltaRows_write_31 rfl (lv_at hl 0 rfl) ?_
    refine g_DeltaRows_9 hx hb hts hown hK hP 0 rfl rfl d_DeltaRows_write_32 ?_
    refine lv_iconst (v := nI 0) hx hb d_DeltaRows_write_35 (by decide +kernel) ?_
    refine z_lald hx hb hK hP 1 1 rfl rfl (by omega) (by decide) d_DeltaRows_write_36 ?_
    refine z_callEl (wr := [(o, .inr (3, [.ref ro, .int (nI rc), .ref bo, .ref so, .ref la, .ref lb])), (ro, .inl (cJ, 2000, .inr (.inl rq))), (bo, .inr (0, [.ref hw, .int (nI ((p_av (x.1.1, 0) ((nI rc).toInt64)).2))])), (hw, .inl (cJ, 2500, .inr (.inl ((p_av (x.1.1, 0) ((nI rc).toInt64)).1)))), (la, .inr (1, [.int (nI bc), .ref hl1, .ref hi1, .ref hs1])), (hl1, .inl (cJ, 32, .inr (.inl x.2.1))), (hi1, .inl (cI, 128, .inl x.2.2.1)), (hs1, .inl (cI, 128, .inl x.2.2.2))]) (w2 := [(o, .inr (3, [.ref ro, .int (nI rc), .ref bo, .ref so, .ref la, .ref lb])), (ro, .inl (cJ, 2000, .inr (.inl rq))), (bo, .inr (0, [.ref hw, .int (nI ((p_av (x.1.1, 0) ((nI rc).toInt64)).2))])), (hw, .inl (cJ, 2500, .inr (.inl ((p_av (x.1.1, 0) ((nI rc).toInt64)).1)))), (la, .inr (1, [.int (nI bc), .ref hl1, .ref hi1, .ref hs1])), (hl1, .inl (cJ, 32, .inr (.inl x.2.1))), (hi1, .inl (cI, 128, .inl x.2.2.1)), (hs1, .inl (cI, 128, .inl x.2.2.2))]) (z_runS (rest := [.ref bo]) hx hb hml hown hts hK hN (c_DeltaRows_zigzag l D cI cJ (rq 0) ) kk_DeltaRows_51 (zP.cut hP [] rfl) (hD.sub [] (by decide) rfl) rfl hl.1 rfl (Nat.le_of_ble_eq_true rfl) d_DeltaRows_write_37 (by decide) (by decide)) hP hD hS hA [] [0, 1, 2, 3, 4, 5, 6, 7] [0, 1, 2, 3, 4, 5, 6, 7] rfl rfl (by decide) (by decide) (by decide) rfl (fun H locs hP hD hS => ?_)
    refine z_callEv (wr := [(o, .inr (3, [.ref ro, .int (nI rc), .ref bo, .ref so, .ref la, .ref lb])), (ro, .inl (cJ, 2000, .inr (.inl rq))), (la, .inr (1, [.int (nI bc), .ref hl1, .ref hi1, .ref hs1])), (hl1, .inl (cJ, 32, .inr (.inl x.2.1))), (hi1, .inl (cI, 128, .inl x.2.2.1)), (hs1, .inl (cI, 128, .inl x.2.2.2))]) (w2 := [(o, .inr (3, [.ref ro, .int (nI rc), .ref bo, .ref so, .ref la, .ref lb])), (ro, .inl (cJ, 2000, .inr (.inl rq))), (bo, .inr (0, [.ref hw, .int (nI ((p_av (p_av (x.1.1, 0) ((nI rc).toInt64)) (p_zig (rq 0))).2))])), (hw, .inl (cJ, 2500, .inr (.inl ((p_av (p_av (x.1.1, 0) ((nI rc).toInt64)) (p_zig (rq 0))).1)))), (la, .inr (1, [.int (nI bc), .ref hl1, .ref hi1, .ref hs1])), (hl1, .inl (cJ, 32, .inr (.inl x.2.1))), (hi1, .inl (cI, 128, .inl x.2.2.1)), (hs1, .inl (cI, 128, .inl x.2.2.2))]) (z_runV (rest := []) hx hb hml hown hts hK hN (c_ByteRow_addVarint l D cI cJ bo hw (p_av (x.1.1, 0) ((nI rc).toInt64)) (p_zig (rq 0)) (by (try dsimp only); omega)) kk_DeltaRows_47 (zP.cut hP [2, 3] rfl) (hD.sub [2, 3] (by decide) rfl) 0 rfl rfl rfl hl.1 rfl (Nat.le_of_ble_eq_true rfl) d_DeltaRows_write_40 (by decide) (by decide)) hP hD hS hA [2, 3] [0, 1, 4, 5, 6, 7] [0, 1, 6, 7, 2, 3, 4, 5] rfl rfl (by decide) (by decide) (by decide) rfl (fun H locs hP hD hS => ?_)
    refine lv_aload_n hx hb d_DeltaRows_write_43 rfl (lv_at hl 0 rfl) ?_
    refine g_DeltaRows_36 hx hb hts hown hK hP 0 rfl rfl d_DeltaRows_write_44 ?_
    refine lv_aload_n hx hb d_DeltaRows_write_47 rfl (lv_at hl 0 rfl) ?_
    refine g_DeltaRows_13 hx hb hts hown hK hP 0 rfl rfl d_DeltaRows_write_48 ?_
    refine z_callEi (wr := [(o, .inr (3, [.ref ro, .int (nI rc), .ref bo, .ref so, .ref la, .ref lb])), (ro, .inl (cJ, 2000, .inr (.inl rq))), (bo, .inr (0, [.ref hw, .int (nI ((p_av (p_av (x.1.1, 0) ((nI rc).toInt64)) (p_zig (rq 0))).2))])), (hw, .inl (cJ, 2500, .inr (.inl ((p_av (p_av (x.1.1, 0) ((nI rc).toInt64)) (p_zig (rq 0))).1)))), (la, .inr (1, [.int (nI bc), .ref hl1, .ref hi1, .ref hs1])), (hl1, .inl (cJ, 32, .inr (.inl x.2.1))), (hi1, .inl (cI, 128, .inl x.2.2.1)), (hs1, .inl (cI, 128, .inl x.2.2.2))]) (w2 := [(o, .inr (3, [.ref ro, .int (nI rc), .ref bo, .ref so, .ref la, .ref lb])), (ro, .inl (cJ, 2000, .inr (.inl rq))), (bo, .inr (0, [.ref hw, .int (nI ((p_av (p_av (x.1.1, 0) ((nI rc).toInt64)) (p_zig (rq 0))).2))])), (hw, .inl (cJ, 2500, .inr (.inl ((p_av (p_av (x.1.1, 0) ((nI rc).toInt64)) (p_zig (rq 0))).1)))), (la, .inr (1, [.int (nI bc), .ref hl1, .ref hi1, .ref hs1])), (hl1, .inl (cJ, 32, .inr (.inl x.2.1))), (hi1, .inl (cI, 128, .inl x.2.2.1)), (hs1, .inl (cI, 128, .inl x.2.2.2))]) (z_runS (rest := [.ref la]) hx hb hml hown hts hK hN (c_DeltaRows_blocksFor l D cI cJ rc (by (try dsimp only); omega)) kk_DeltaRows_55 (zP.cut hP [] rfl) (hD.sub [] (by decide) rfl) rfl hl.1 rfl (Nat.le_of_ble_eq_true rfl) d_DeltaRows_write_51 (by decide) (by decide)) hP hD hS hA [] [0, 1, 2, 3, 4, 5, 6, 7] [0, 1, 2, 3, 4, 5, 6, 7] rfl rfl (by decide) (by decide) (by decide) rfl (fun H locs hP hD hS => ?_)
    refine p_DeltaRows_59 (w2 := [(o, .inr (3, [.ref ro, .int (nI rc), .ref bo, .ref so, .ref la, .ref lb])), (ro, .inl (cJ, 2000, .inr (.inl rq))), (bo, .inr (0, [.ref hw, .int (nI ((p_av (p_av (x.1.1, 0) ((nI rc).toInt64)) (p_zig (rq 0))).2))])), (hw, .inl (cJ, 2500, .inr (.inl ((p_av (p_av (x.1.1, 0) ((nI rc).toInt64)) (p_zig (rq 0))).1)))), (la, .inr (1, [.int (nI (p_bf rc)), .ref hl1, .ref hi1, .ref hs1])), (hl1, .inl (cJ, 32, .inr (.inl x.2.1))), (hi1, .inl (cI, 128, .inl x.2.2.1)), (hs1, .inl (cI, 128, .inl x.2.2.2))]) hx hb hts hown hK hP hD hS 4 rfl (Nat.le_of_ble_eq_true rfl) rfl d_DeltaRows_write_54 (fun H locs hP hD hS => ?_)
    refine lv_iconst (v := nI 0) hx hb d_DeltaRows_write_57 (by decide +kernel) ?_
    refine lv_istore_n (lv' := [(1, .int (nI 0)), (0, .ref o)]) hx hb d_DeltaRows_write_58 rfl hl (by decide) rfl (fun ls hl => ?_)
    have hlp59 : ∀ (n : Nat) (t : Nat), (t ≤ p_bf rc) → p_bf rc - t < n → ∀ (H : Heap) (locs : List Loc), va_P D classes [(o, .inr (3, [.ref ro, .int (nI rc), .ref bo, .ref so, .ref la, .ref lb])), (ro, .inl (cJ, 2000, .inr (.inl rq))), (bo, .inr (0, [.ref hw, .int (nI ((p_wbs rq rc t (if 0 < rc then p_av (p_av (x.1.1, 0) (nI rc).toInt64) (p_zig (rq 0)) else p_av (x.1.1, 0) (nI rc).toInt64, x.2)).1.2))])), (hw, .inl (cJ, 2500, .inr (.inl ((p_wbs rq rc t (if 0 < rc then p_av (p_av (x.1.1, 0) (nI rc).toInt64) (p_zig (rq 0)) else p_av (x.1.1, 0) (nI rc).toInt64, x.2)).1.1)))), (la, .inr (1, [.int (nI (p_bf rc)), .ref hl1, .ref hi1, .ref hs1])), (hl1, .inl (cJ, 32, .inr (.inl ((p_wbs rq rc t (if 0 < rc then p_av (p_av (x.1.1, 0) (nI rc).toInt64) (p_zig (rq 0)) else p_av (x.1.1, 0) (nI rc).toInt64, x.2)).2.1)))), (hi1, .inl (cI, 128, .inl ((p_wbs rq rc t (if 0 < rc then p_av (p_av (x.1.1, 0) (nI rc).toInt64) (p_zig (rq 0)) else p_av (x.1.1, 0) (nI rc).toInt64, x.2)).2.2.1))), (hs1, .inl (cI, 128, .inl ((p_wbs rq rc t (if 0 < rc then p_av (p_av (x.1.1, 0) (nI rc).toInt64) (p_zig (rq 0)) else p_av (x.1.1, 0) (nI rc).toInt64, x.2)).2.2.2)))] H → va_D A [(o, .inr (3, [.ref ro, .int (nI rc), .ref bo, .ref so, .ref la, .ref lb])), (ro, .inl (cJ, 2000, .inr (.inl rq))), (bo, .inr (0, [.ref hw, .int (nI ((p_wbs rq rc t (if 0 < rc then p_av (p_av (x.1.1, 0) (nI rc).toInt64) (p_zig (rq 0)) else p_av (x.1.1, 0) (nI rc).toInt64, x.2)).1.2))])), (hw, .inl (cJ, 2500, .inr (.inl ((p_wbs rq rc t (if 0 < rc then p_av (p_av (x.1.1, 0) (nI rc).toInt64) (p_zig (rq 0)) else p_av (x.1.1, 0) (nI rc).toInt64, x.2)).1.1)))), (la, .inr (1, [.int (nI (p_bf rc)), .ref hl1, .ref hi1, .ref hs1])), (hl1, .inl (cJ, 32, .inr (.inl ((p_wbs rq rc t (if 0 < rc then p_av (p_av (x.1.1, 0) (nI rc).toInt64) (p_zig (rq 0)) else p_av (x.1.1, 0) (nI rc).toInt64, x.2)).2.1)))), (hi1, .inl (cI, 128, .inl ((p_wbs rq rc t (if 0 < rc then p_av (p_av (x.1.1, 0) (nI rc).toInt64) (p_zig (rq 0)) else p_av (x.1.1, 0) (nI rc).toInt64, x.2)).2.2.1))), (hs1, .inl (cI, 128, .inl ((p_wbs rq rc t (if 0 < rc then p_av (p_av (x.1.1, 0) (nI rc).toInt64) (p_zig (rq 0)) else p_av (x.1.1, 0) (nI rc).toInt64, x.2)).2.2.2)))] → va_S A s.heap H locs → ∀ (ls : Array Slot), lv_has ls 2 [(0, .ref o), (1, .int (nI t))] → W p l e { frames := 6, cells := 0, slots := 0, locals := 146 } s m ([.ref o] : List Value).toArray below meth c H locs 0 0 (MQ below (zQ D (zEq (some (.int (nI ((p_write rq rc x).1.2)))) [(o, .inr (3, [.ref ro, .int (nI rc), .ref bo, .ref so, .ref la, .ref lb])), (ro, .inl (cJ, 2000, .inr (.inl rq))), (bo, .inr (0, [.ref hw, .int (nI ((p_write rq rc x).1.2))])), (hw, .inl (cJ, 2500, .inr (.inl ((p_write rq rc x).1.1)))), (la, .inr (1, [.int (nI (p_bf rc)), .ref hl1, .ref hi1, .ref hs1])), (hl1, .inl (cJ, 32, .inr (.inl ((p_write rq rc x).2.1)))), (hi1, .inl (cI, 128, .inl ((p_write rq rc x).2.2.1))), (hs1, .inl (cI, 128, .inl ((p_write rq rc x).2.2.2)))]) A) ([.ref o] : List Value).toArray s 0 0 A) (F0 m 59 ls []) := by
      intro n
      induction n with
      | zero => intro t h1 hmu; exact absurd hmu (Nat.not_lt_zero _)
      | succ n ih =>
        intro t h1 hmu H locs hP hD hS ls hl
        have v5 := v4 t
        have ih59 := ih
        refine lv_iload_n hx hb d_DeltaRows_write_59 rfl (lv_at hl 1 rfl) ?_
        refine lv_aload_n hx hb d_DeltaRows_write_60 rfl (lv_at hl 0 rfl) ?_
        refine g_DeltaRows_36 hx hb hts hown hK hP 0 rfl rfl d_DeltaRows_write_61 ?_
        refine g_DeltaRows_59 hx hb hts hown hK hP 4 rfl rfl d_DeltaRows_write_64 ?_
        refine zn_ge (a := t) (b := p_bf rc) (by omega) (by omega) hx hb d_DeltaRows_write_67 (tgt := 81) (by decide) (fun c_67 => ?_) (fun c_67 => ?_)
        · skip
          refine lv_aload_n hx hb d_DeltaRows_write_81 rfl (lv_at hl 0 rfl) ?_
          refine g_DeltaRows_20 hx hb hts hown hK hP 0 rfl rfl d_DeltaRows_write_82 ?_
          refine g_DeltaRows_65 hx hb hts hown hK hP 2 rfl rfl d_DeltaRows_write_85 ?_
          exact z_iret hx hb hr hlocks hS hP hD ⟨by unfold p_write; rw [show t = p_bf rc by omega], by unfold p_write; rw [show t = p_bf rc by omega]⟩ d_DeltaRows_write_88
        · skip
          refine lv_aload_n hx hb d_DeltaRows_write_70 rfl (lv_at hl 0 rfl) ?_
          refine lv_iload_n hx hb d_DeltaRows_write_71 rfl (lv_at hl 1 rfl) ?_
          refine z_callEv (wr := []) (w2 := [(o, .inr (3, [.ref ro, .int (nI rc), .ref bo, .ref so, .ref la, .ref lb])), (ro, .inl (cJ, 2000, .inr (.inl rq))), (bo, .inr (0, [.ref hw, .int (nI ((p_wb rq rc t (p_wbs rq rc t (if 0 < rc then p_av (p_av (x.1.1, 0) (nI rc).toInt64) (p_zig (rq 0)) else p_av (x.1.1, 0) (nI rc).toInt64, x.2))).1.2))])), (hw, .inl (cJ, 2500, .inr (.inl ((p_wb rq rc t (p_wbs rq rc t (if 0 < rc then p_av (p_av (x.1.1, 0) (nI rc).toInt64) (p_zig (rq 0)) else p_av (x.1.1, 0) (nI rc).toInt64, x.2))).1.1)))), (la, .inr (1, [.int (nI (p_bf rc)), .ref hl1, .ref hi1, .ref hs1])), (hl1, .inl (cJ, 32, .inr (.inl ((p_wb rq rc t (p_wbs rq rc t (if 0 < rc then p_av (p_av (x.1.1, 0) (nI rc).toInt64) (p_zig (rq 0)) else p_av (x.1.1, 0) (nI rc).toInt64, x.2))).2.1)))), (hi1, .inl (cI, 128, .inl ((p_wb rq rc t (p_wbs rq rc t (if 0 < rc then p_av (p_av (x.1.1, 0) (nI rc).toInt64) (p_zig (rq 0)) else p_av (x.1.1, 0) (nI rc).toInt64, x.2))).2.2.1))), (hs1, .inl (cI, 128, .inl ((p_wb rq rc t (p_wbs rq rc t (if 0 < rc then p_av (p_av (x.1.1, 0) (nI rc).toInt64) (p_zig (rq 0)) else p_av (x.1.1, 0) (nI rc).toInt64, x.2))).2.2.2)))]) (z_runV (rest := []) hx hb hml hown hts hK hN (c_DeltaRows_writeBlock l D cI cJ o ro bo so la lb rc rq hl1 hi1 hs1 (p_bf rc) hw (p_wbs rq rc t (if 0 < rc then p_av (p_av (x.1.1, 0) (nI rc).toInt64) (p_zig (rq 0)) else p_av (x.1.1, 0) (nI rc).toInt64, x.2)) t (by (try dsimp only); omega) (by (try dsimp only); omega) (by (try dsimp only); omega)) kk_DeltaRows_62 (zP.cut hP [0, 1, 2, 3, 4, 5, 6, 7] rfl) (hD.sub [0, 1, 2, 3, 4, 5, 6, 7] (by decide) rfl) 0 rfl rfl rfl hl.1 rfl (Nat.le_of_ble_eq_true rfl) d_DeltaRows_write_72 (by decide) (by decide)) hP hD hS hA [0, 1, 2, 3, 4, 5, 6, 7] [] [0, 1, 2, 3, 4, 5, 6, 7] rfl rfl (by decide) (by decide) (by decide) rfl (fun H locs hP hD hS => ?_)
          refine lv_iinc (v := nI (t + 1)) (lv' := [(1, .int (nI (t + 1))), (0, .ref o)]) hx hb d_DeltaRows_write_75 hl (k := 1) rfl (zinc t 1) (by decide) rfl (fun ls hl => ?_)
          refine lv_goto (tgt := 59) hx hb d_DeltaRows_write_78 (by decide) ?_
          exact ih59 (t + 1) (by omega) (by omega) _ _ hP hD hS ls (lv_sub hl [1, 0] rfl)
    exact hlp59 _ 0 (Nat.zero_le _) (Nat.lt_succ_self _) _ _ (by first | (rw [p_wbs, if_pos c_24]; exact hP) | (rw [p_wbs, if_neg (by omega)]; exact hP)) (by first | (rw [p_wbs, if_pos c_24]; exact hD) | (rw [p_wbs, if_neg (by omega)]; exact hD)) hS ls (lv_sub hl [1, 0] rfl)
end
section
/-! what the class reads -/
def cl (f : Nat → Int32) (j : Nat) : Nat := (f j).toNatClampNeg
def p_tpl (wd : Nat → Int64) (lv : Int64) (w : Nat) : Nat → Nat → Nat → (Nat → Int64) → (Nat → Int64)
  | 0, _, _, rq => rq
  | t + 1, i, q, rq => p_tpl wd lv w t (i + 1) (q + w) (vp_updL rq i (rq (i - 1) + lv + p_bitsIn wd q w))
def p_tp (wd : Nat → Int64) (rc : Nat) (lv : Int64) (w s0 k p : Nat) (rq : Nat → Int64) : Nat → Int64 := p_tpl wd lv w (p_pe k (p + 1) rc - p_pe k p rc) (p_pe k p rc) (s0 * 8) rq
def p_trp (wd : Nat → Int64) (rc : Nat) (le : Nat → Int64) (wi st : Nat → Int32) (k : Nat) : Nat → (Nat → Int64) → (Nat → Int64)
  | 0, rq => rq
  | t + 1, rq => p_tp wd rc (le k) (cl wi (k * 4 + t)) (cl st (k * 4 + t)) k t (p_trp wd rc le wi st k t rq)
def p_trb (wd : Nat → Int64) (rc : Nat) (le : Nat → Int64) (wi st : Nat → Int32) : Nat → (Nat → Int64) → (Nat → Int64)
  | 0, rq => rq
  | t + 1, rq => p_trp wd rc le wi st t 4 (p_trb wd rc le wi st t rq)
def p_tr (wd : Nat → Int64) (to : Nat) (fi : Int64) (bc : Nat) (le : Nat → Int64) (wi st : Nat → Int32) (rq : Nat → Int64) : Nat → Int64 := p_trb wd to le wi st bc (if 0 < to then vp_updL rq 0 fi else rq)
/-- the widths and starts of the blocks below bc are numbers -/
def p_okL (bc : Nat) (wi st : Nat → Int32) : Prop := ∀ j, j < bc * 4 → wi j = nI (cl wi j) ∧ cl wi j ≤ 64 ∧ st j = nI (cl st j) ∧ cl st j ≤ 20000
def uT (x : Int64) : Nat := x.toBitVec.toNat
theorem uT_i (x : Int64) : x.toInt32 = nI (uT x) := by
  rw [lN_self x, lN_i]
  rw [← lN_self x]
  rfl
theorem uT_le {x : Int64} (h1 : ¬ x < 0) (h2 : ¬ 2000 < x) : uT x ≤ 2000 := by
  obtain ⟨k, hk, rfl⟩ := pk_lOf h1
  have h3 : ¬ lN 2000 < lN k := h2
  rw [pk_lLT (by decide) hk] at h3
  unfold uT
  rw [wb_tn (by omega)]
  omega
def p_lh (b : BB) (z : SS) : SS × Nat × Int64 :=
  if (p_nv b z).2.2.1 = 0 then
    (if (p_nv b z).1 < 0 ∨ 2000 < (p_nv b z).1 then (((p_nv b z).2.1, 4, nI 0), 0, 0)
     else if 0 < uT (p_nv b z).1 then ((p_nv b (p_nv b z).2).2, uT (p_nv b z).1, p_unzig (p_nv b (p_nv b z).2).1)
     else ((p_nv b z).2, uT (p_nv b z).1, 0))
  else ((p_nv b z).2, 0, 0)
/-- the widths of a block are looked at -/
def p_lw (b : BB) (to k : Nat) : Nat → Nat → SS × (Nat → Int32) → SS × (Nat → Int32)
  | 0, _, x => x
  | n + 1, i, x => if x.1.2.1 = 0 then p_lw b to k n (i + 1) (p_nwS b x.1 (p_lo to k i), upd x.2 (k * 4 + i) (nI (p_nbV b x.1))) else x
/-- its parts -/
def p_lp (b : BB) (to k : Nat) (wi : Nat → Int32) : Nat → Nat → SS × (Nat → Int32) → SS × (Nat → Int32)
  | 0, _, x => x
  | n + 1, i, x => if x.1.2.1 = 0 then p_lp b to k wi n (i + 1) (p_pp b x.1 (cl wi (k * 4 + i)) (p_lo to k i), upd x.2 (k * 4 + i) (nI x.1.1)) else x
abbrev LL : Type := SS × (Nat → Int64) × (Nat → Int32) × (Nat → Int32)
def p_lb (b : BB) (to k : Nat) (x : LL) : LL :=
  ((p_lp b to k (p_lw b to k 4 0 ((p_nv b x.1).2, x.2.2.1)).2 4 0 ((p_lw b to k 4 0 ((p_nv b x.1).2, x.2.2.1)).1, x.2.2.2)).1,
   vp_updL x.2.1 k (p_unzig (p_nv b x.1).1),
   (p_lw b to k 4 0 ((p_nv b x.1).2, x.2.2.1)).2,
   (p_lp b to k (p_lw b to k 4 0 ((p_nv b x.1).2, x.2.2.1)).2 4 0 ((p_lw b to k 4 0 ((p_nv b x.1).2, x.2.2.1)).1, x.2.2.2)).2)
def p_lbs (b : BB) (to : Nat) : Nat → Nat → LL → LL
  | 0, _, x => x
  | n + 1, k, x => if x.1.2.1 = 0 then p_lbs b to n (k + 1) (p_lb b to k x) else x
def p_end (b : BB) (z : SS) : SS := if z.2.1 = 0 ∧ z.1 < b.2 then (z.1, 6, nI z.1) else z
def p_z0 : SS := (0, 0, (-1))
/-- the whole look: the head, and the blocks -/
def p_look (b : BB) (x : (Nat → Int64) × (Nat → Int32) × (Nat → Int32)) : LL := p_lbs b (p_lh b p_z0).2.1 (p_bf (p_lh b p_z0).2.1) 0 ((p_lh b p_z0).1, x)
theorem p_nvl_f {b : BB} {beg : Nat} : ∀ (n i : Nat) (v : Int64) (z : SS), z.2.1 < 1000000 → (p_nvl b beg n i v z).2.2.1 < 1000000
  | 0, _, _, _, _ => (by decide : 2 < 1000000)
  | n + 1, i, v, z, h => by
    have h1 := p_nbS_f (b := b) h
    unfold p_nvl
    by_cases a1 : (p_nbS b z).2.1 = 0
    · rw [if_pos a1]
      by_cases a2 : (i = 9 ∧ 1 < p_nbV b z) ∨ (0 < i ∧ p_nbV b z = 0)
      · rw [if_pos a2]; exact (by decide : 2 < 1000000)
      · rw [if_neg a2]
        by_cases a3 : p_nbV b z < 128
        · rw [if_pos a3]; exact h1
        · rw [if_neg a3]; exact p_nvl_f n _ _ _ h1
    · rw [if_neg a1]; exact h1
theorem p_nv_f {b : BB} {z : SS} (h : z.2.1 < 1000000) : (p_nv b z).2.2.1 < 1000000 := p_nvl_f _ _ _ _ h
theorem p_nwS_f {b : BB} {z : SS} {lo : Nat} (h : z.2.1 < 1000000) : (p_nwS b z lo).2.1 < 1000000 := by
  have h1 := p_nbS_f (b := b) h
  unfold p_nwS
  by_cases a : 64 < p_nbV b z ∨ (0 < p_nbV b z ∧ lo = 0)
  · rw [if_pos a]; exact (by decide : 5 < 1000000)
  · rw [if_neg a]; exact h1
theorem p_ppl_f {b : BB} {z : SS} {w : Nat} (h : z.2.1 < 1000000) : ∀ (n i : Nat), (p_ppl b z w n i).2.1 < 1000000
  | 0, _ => h
  | n + 1, i => by
    unfold p_ppl
    by_cases a : p_bitsIn b.1 (z.1 * 8 + i * w) w = 0
    · rw [if_pos a]; exact p_ppl_f h n _
    · rw [if_neg a]; exact (by decide : 5 < 1000000)
theorem p_pp_f {b : BB} {z : SS} {w lo : Nat} (h : z.2.1 < 1000000) : (p_pp b z w lo).2.1 < 1000000 := by
  unfold p_pp
  by_cases a : b.2 - z.1 < w * 16 / 8
  · rw [if_pos a]; exact (by decide : 1 < 1000000)
  · rw [if_neg a]; exact p_ppl_f h _ _
/-- a state of the look stands in the bytes -/
def p_ok (b : BB) (z : SS) : Prop := z.1 ≤ b.2 ∧ z.2.1 < 1000000
theorem p_ok_nv {b : BB} {z : SS} (h : p_ok b z) : p_ok b (p_nv b z).2 := ⟨p_nv_le h.1, p_nv_f h.2⟩
theorem p_ok_nw {b : BB} {z : SS} {lo : Nat} (h : p_ok b z) : p_ok b (p_nwS b z lo) := ⟨p_nwS_le h.1, p_nwS_f h.2⟩
theorem p_ok_pp {b : BB} {z : SS} {w lo : Nat} (h : p_ok b z) : p_ok b (p_pp b z w lo) := ⟨p_pp_le h.1, p_pp_f h.2⟩
theorem p_ok_lw {b : BB} {to k : Nat} : ∀ (n i : Nat) (x : SS × (Nat → Int32)), p_ok b x.1 → p_ok b (p_lw b to k n i x).1
  | 0, _, _, h => h
  | n + 1, i, x, h => by
    unfold p_lw
    by_cases a : x.1.2.1 = 0
    · rw [if_pos a]; exact p_ok_lw n _ _ (p_ok_nw h)
    · rw [if_neg a]; exact h
theorem p_ok_lp {b : BB} {to k : Nat} {wi : Nat → Int32} : ∀ (n i : Nat) (x : SS × (Nat → Int32)), p_ok b x.1 → p_ok b (p_lp b to k wi n i x).1
  | 0, _, _, h => h
  | n + 1, i, x, h => by
    unfold p_lp
    by_cases a : x.1.2.1 = 0
    · rw [if_pos a]; exact p_ok_lp n _ _ (p_ok_pp h)
    · rw [if_neg a]; exact h
theorem p_ok_lb {b : BB} {to k : Nat} {x : LL} (h : p_ok b x.1) : p_ok b (p_lb b to k x).1 := p_ok_lp 4 0 _ (p_ok_lw 4 0 _ (p_ok_nv h))
theorem p_ok_lh {b : BB} {z : SS} (h : p_ok b z) : p_ok b (p_lh b z).1 := by
  have h1 := p_ok_nv h
  unfold p_lh
  by_cases a1 : (p_nv b z).2.2.1 = 0
  · rw [if_pos a1]
    by_cases a2 : (p_nv b z).1 < 0 ∨ 2000 < (p_nv b z).1
    · rw [if_pos a2]; exact ⟨h1.1, (by decide : 4 < 1000000)⟩
    · rw [if_neg a2]
      by_cases a3 : 0 < uT (p_nv b z).1
      · rw [if_pos a3]; exact p_ok_nv h1
      · rw [if_neg a3]; exact h1
  · rw [if_neg a1]; exact h1
theorem p_lh_to {b : BB} {z : SS} : (p_lh b z).2.1 ≤ 2000 := by
  unfold p_lh
  by_cases a1 : (p_nv b z).2.2.1 = 0
  · rw [if_pos a1]
    by_cases a2 : (p_nv b z).1 < 0 ∨ 2000 < (p_nv b z).1
    · rw [if_pos a2]; exact Nat.zero_le _
    · rw [if_neg a2]
      have h := uT_le (fun q => a2 (Or.inl q)) (fun q => a2 (Or.inr q))
      by_cases a3 : 0 < uT (p_nv b z).1
      · rw [if_pos a3]; exact h
      · rw [if_neg a3]; exact h
  · rw [if_neg a1]; exact Nat.zero_le _
theorem p_ok_z0 (b : BB) : p_ok b p_z0 := ⟨Nat.zero_le _, by decide⟩
theorem p_lo_le (to k p : Nat) : p_lo to k p ≤ 16 := by unfold p_lo p_pe; omega
def p_g8 (f : Nat → Int32) (j : Nat) : Prop := f j = nI (cl f j) ∧ cl f j ≤ 255
theorem p_g8_new {f : Nat → Int32} {j v : Nat} (hv : v ≤ 255) : p_g8 (upd f j (nI v)) j := by
  have h : cl (upd f j (nI v)) j = v := by unfold cl; rw [pk_us, nI_clamp (by omega)]
  exact ⟨by rw [h, pk_us], by rw [h]; exact hv⟩
theorem p_g8_old {f : Nat → Int32} {j i : Nat} {x : Int32} (hne : i ≠ j) (h : p_g8 f i) : p_g8 (upd f j x) i := by
  have h1 : cl (upd f j x) i = cl f i := by unfold cl; rw [pk_un hne]
  exact ⟨by rw [h1, pk_un hne]; exact h.1, by rw [h1]; exact h.2⟩
/-! a look without a fault leaves numbers in the layout -/
theorem p_lw_f0 {b : BB} {to k : Nat} : ∀ (n i : Nat) (x : SS × (Nat → Int32)), (p_lw b to k n i x).1.2.1 = 0 → x.1.2.1 = 0
  | 0, _, _, h => h
  | n + 1, i, x, h => by
    unfold p_lw at h
    by_cases a : x.1.2.1 = 0
    · exact a
    · rw [if_neg a] at h; exact h
theorem p_lp_f0 {b : BB} {to k : Nat} {wi : Nat → Int32} : ∀ (n i : Nat) (x : SS × (Nat → Int32)), (p_lp b to k wi n i x).1.2.1 = 0 → x.1.2.1 = 0
  | 0, _, _, h => h
  | n + 1, i, x, h => by
    unfold p_lp at h
    by_cases a : x.1.2.1 = 0
    · exact a
    · rw [if_neg a] at h; exact h
theorem p_lw_out {b : BB} {to k j : Nat} : ∀ (n i : Nat) (x : SS × (Nat → Int32)), (j < k * 4 + i ∨ k * 4 + i + n ≤ j) → (p_lw b to k n i x).2 j = x.2 j
  | 0, _, _, _ => rfl
  | n + 1, i, x, h => by
    unfold p_lw
    by_cases a : x.1.2.1 = 0
    · rw [if_pos a, p_lw_out n (i + 1) _ (by omega)]
      exact pk_un (by omega)
    · rw [if_neg a]
theorem p_lp_out {b : BB} {to k j : Nat} {wi : Nat → Int32} : ∀ (n i : Nat) (x : SS × (Nat → Int32)), (j < k * 4 + i ∨ k * 4 + i + n ≤ j) → (p_lp b to k wi n i x).2 j = x.2 j
  | 0, _, _, _ => rfl
  | n + 1, i, x, h => by
    unfold p_lp
    by_cases a : x.1.2.1 = 0
    · rw [if_pos a, p_lp_out n (i + 1) _ (by omega)]
      exact pk_un (by omega)
    · rw [if_neg a]
theorem p_lw_in {b : BB} {to k : Nat} : ∀ (n i : Nat) (x : SS × (Nat → Int32)), (p_lw b to k n i x).1.2.1 = 0 → ∀ q, i ≤ q → q < i + n → ∃ v, v ≤ 64 ∧ (p_lw b to k n i x).2 (k * 4 + q) = nI v
  | 0, _, _, _, q, h1, h2 => absurd h2 (by omega)
  | n + 1, i, x, h, q, h1, h2 => by
    have ha : x.1.2.1 = 0 := p_lw_f0 (n + 1) i x h
    unfold p_lw at h ⊢
    rw [if_pos ha] at h ⊢
    by_cases e : q = i
    · subst e
      rw [p_lw_out n (q + 1) _ (by omega)]
      refine ⟨p_nbV b x.1, ?_, pk_us⟩
      have h3 := p_lw_f0 n (q + 1) _ h
      dsimp only at h3
      unfold p_nwS at h3
      by_cases a : 64 < p_nbV b x.1 ∨ (0 < p_nbV b x.1 ∧ p_lo to k q = 0)
      · rw [if_pos a] at h3; exact absurd (show 5 = 0 from h3) (by decide)
      · omega
    · exact p_lw_in n (i + 1) _ h q (by omega) (by omega)
theorem p_lp_in {b : BB} {to k : Nat} {wi : Nat → Int32} (hu : b.2 ≤ 20000) : ∀ (n i : Nat) (x : SS × (Nat → Int32)), p_ok b x.1 → (p_lp b to k wi n i x).1.2.1 = 0 → ∀ q, i ≤ q → q < i + n → ∃ v, v ≤ 20000 ∧ (p_lp b to k wi n i x).2 (k * 4 + q) = nI v
  | 0, _, _, _, _, q, h1, h2 => absurd h2 (by omega)
  | n + 1, i, x, ho, h, q, h1, h2 => by
    have ha : x.1.2.1 = 0 := p_lp_f0 (n + 1) i x h
    unfold p_lp at h ⊢
    rw [if_pos ha] at h ⊢
    by_cases e : q = i
    · subst e
      rw [p_lp_out n (q + 1) _ (by omega)]
      have h4 := ho.1
      exact ⟨x.1.1, by omega, pk_us⟩
    · exact p_lp_in hu n (i + 1) _ (p_ok_pp ho) h q (by omega) (by omega)
def p_gj (wi st : Nat → Int32) (j : Nat) : Prop := ∃ v s, v ≤ 64 ∧ s ≤ 20000 ∧ wi j = nI v ∧ st j = nI s
theorem p_lb_f0 {b : BB} {to k : Nat} {x : LL} (h : (p_lb b to k x).1.2.1 = 0) : (p_nv b x.1).2.2.1 = 0 := p_lw_f0 (b := b) (to := to) (k := k) 4 0 ((p_nv b x.1).2, x.2.2.1) (p_lp_f0 (b := b) (to := to) (k := k) (wi := (p_lw b to k 4 0 ((p_nv b x.1).2, x.2.2.1)).2) 4 0 ((p_lw b to k 4 0 ((p_nv b x.1).2, x.2.2.1)).1, x.2.2.2) h)
theorem p_lb_gj {b : BB} {to k : Nat} {x : LL} (hu : b.2 ≤ 20000) (ho : p_ok b x.1) (h : (p_lb b to k x).1.2.1 = 0) (hx : ∀ j, j < k * 4 → p_gj x.2.2.1 x.2.2.2 j) : ∀ j, j < (k + 1) * 4 → p_gj (p_lb b to k x).2.2.1 (p_lb b to k x).2.2.2 j := by
  intro j hj
  have h1 : (p_lw b to k 4 0 ((p_nv b x.1).2, x.2.2.1)).1.2.1 = 0 := p_lp_f0 (b := b) (to := to) (k := k) (wi := (p_lw b to k 4 0 ((p_nv b x.1).2, x.2.2.1)).2) 4 0 ((p_lw b to k 4 0 ((p_nv b x.1).2, x.2.2.1)).1, x.2.2.2) h
  by_cases e : j < k * 4
  · obtain ⟨v, s, a1, a2, a3, a4⟩ := hx j e
    refine ⟨v, s, a1, a2, ?_, ?_⟩
    · rw [← a3]; exact p_lw_out (b := b) (to := to) (k := k) 4 0 ((p_nv b x.1).2, x.2.2.1) (by omega)
    · rw [← a4]; exact p_lp_out (b := b) (to := to) (k := k) (wi := (p_lw b to k 4 0 ((p_nv b x.1).2, x.2.2.1)).2) 4 0 ((p_lw b to k 4 0 ((p_nv b x.1).2, x.2.2.1)).1, x.2.2.2) (by omega)
  · obtain ⟨v, a1, a2⟩ := p_lw_in (b := b) (to := to) (k := k) 4 0 ((p_nv b x.1).2, x.2.2.1) h1 (j - k * 4) (by omega) (by omega)
    obtain ⟨s, a3, a4⟩ := p_lp_in (to := to) (k := k) (wi := (p_lw b to k 4 0 ((p_nv b x.1).2, x.2.2.1)).2) hu 4 0 ((p_lw b to k 4 0 ((p_nv b x.1).2, x.2.2.1)).1, x.2.2.2) (p_ok_lw 4 0 _ (p_ok_nv ho)) h (j - k * 4) (by omega) (by omega)
    rw [show k * 4 + (j - k * 4) = j by omega] at a2 a4
    exact ⟨v, s, a1, a3, a2, a4⟩
theorem p_lbs_f0 {b : BB} {to : Nat} : ∀ (n k : Nat) (x : LL), (p_lbs b to n k x).1.2.1 = 0 → x.1.2.1 = 0
  | 0, _, _, h => h
  | n + 1, k, x, h => by
    unfold p_lbs at h
    by_cases a : x.1.2.1 = 0
    · exact a
    · rw [if_neg a] at h; exact h
theorem p_ok_lbs {b : BB} {to : Nat} : ∀ (n k : Nat) (x : LL), p_ok b x.1 → p_ok b (p_lbs b to n k x).1
  | 0, _, _, h => h
  | n + 1, k, x, h => by
    unfold p_lbs
    by_cases a : x.1.2.1 = 0
    · rw [if_pos a]; exact p_ok_lbs n _ _ (p_ok_lb h)
    · rw [if_neg a]; exact h
theorem p_lbs_gj {b : BB} {to : Nat} (hu : b.2 ≤ 20000) : ∀ (n k : Nat) (x : LL), p_ok b x.1 → (p_lbs b to n k x).1.2.1 = 0 → (∀ j, j < k * 4 → p_gj x.2.2.1 x.2.2.2 j) → ∀ j, j < (k + n) * 4 → p_gj (p_lbs b to n k x).2.2.1 (p_lbs b to n k x).2.2.2 j
  | 0, _, _, _, _, hx, j, hj => hx j hj
  | n + 1, k, x, ho, h, hx, j, hj => by
    have ha := p_lbs_f0 (n + 1) k x h
    unfold p_lbs at h ⊢
    rw [if_pos ha] at h ⊢
    have h1 := p_lbs_f0 n (k + 1) _ h
    exact p_lbs_gj hu n (k + 1) _ (p_ok_lb ho) h (p_lb_gj hu ho h1 hx) j (by omega)
theorem p_end_0 {b : BB} {z : SS} (h : (p_end b z).2.1 = 0) : z.2.1 = 0 := by
  unfold p_end at h
  by_cases a : z.2.1 = 0 ∧ z.1 < b.2
  · exact a.1
  · rw [if_neg a] at h; exact h
theorem p_ok_look {b : BB} {y : (Nat → Int64) × (Nat → Int32) × (Nat → Int32)} : p_ok b (p_look b y).1 := p_ok_lbs _ _ _ (p_ok_lh (p_ok_z0 b))
theorem p_end_f {b : BB} {y : (Nat → Int64) × (Nat → Int32) × (Nat → Int32)} : (p_end b (p_look b y).1).2.1 < 1000000 := by
  unfold p_end
  by_cases a : (p_look b y).1.2.1 = 0 ∧ (p_look b y).1.1 < b.2
  · rw [if_pos a]; exact (by decide : 6 < 1000000)
  · rw [if_neg a]; exact p_ok_look.2
theorem p_look_ok {b : BB} {y : (Nat → Int64) × (Nat → Int32) × (Nat → Int32)} (hu : b.2 ≤ 20000) (h : (p_end b (p_look b y).1).2.1 = 0) : p_okL (p_bf (p_lh b p_z0).2.1) (p_look b y).2.2.1 (p_look b y).2.2.2 := by
  intro j hj
  obtain ⟨v, s, a1, a2, a3, a4⟩ := p_lbs_gj hu (p_bf (p_lh b p_z0).2.1) 0 _ (p_ok_lh (p_ok_z0 b)) (p_end_0 h) (fun j hj => absurd hj (by omega)) j (by omega)
  have e1 : cl (p_look b y).2.2.1 j = v := by
    unfold cl
    rw [show (p_look b y).2.2.1 j = nI v from a3, nI_clamp (by omega)]
  have e2 : cl (p_look b y).2.2.2 j = s := by
    unfold cl
    rw [show (p_look b y).2.2.2 j = nI s from a4, nI_clamp (by omega)]
  rw [e1, e2]
  exact ⟨a3, a1, a4, a2⟩
end
section
set_option maxHeartbeats 4000000 in
set_option maxRecDepth 100000 in
theorem c_Scan_lookAtHead (l : Launch) (D : va_G) (cI cJ : ClassId) (h0 : Nat) (bo : Nat) (z : SS) (to : Nat) (fi : Int64) (hw : Nat) (b : BB) (hu : b.2 ≤ 20000) (hz : p_ok b z) : Ct l D (zT cI cJ) y_Scan_lookAtHead b_Scan_lookAtHead 3 none 5 117 0 0 [.ref h0] [(h0, .inr (2, [.ref bo, .int (nI z.1), .int (nI z.2.1), .int z.2.2, .int (nI to), .long fi])), (bo, .inr (0, [.ref hw, .int (nI b.2)])), (hw, .inl (cJ, 2500, .inr (.inl b.1)))] (zEq none [(h0, .inr (2, [.ref bo, .int (nI ((p_lh b z).1.1)), .int (nI ((p_lh b z).1.2.1)), .int ((p_lh b z).1.2.2), .int (nI ((p_lh b z).2.1)), .long ((p_lh b z).2.2)])), (bo, .inr (0, [.ref hw, .int (nI b.2)])), (hw, .inl (cJ, 2500, .inr (.inl b.1)))]) := by
  refine Ct.ofW (by decide) (Nat.le_of_ble_eq_true rfl) ?_
  intro p e s m below meth c A ls C0 hP hD hS hl
  obtain ⟨hx, hb, hml, hown, hts, hK, hN, hr, hlocks, hA, hnm⟩ := C0
  have hl : lv_has ls 3 [(0, .ref h0)] := hl
  have hown : s.vm.findClass R_Scan = some m.cls := hown
  have h1 := p_ok_nv hz
  refine lv_aload_n hx hb d_Scan_lookAtHead_0 rfl (lv_at hl 0 rfl) ?_
  refine lv_iconst (v := nI 0) hx hb d_Scan_lookAtHead_1 (by decide +kernel) ?_
  refine p_Scan_25 (w2 := [(h0, .inr (2, [.ref bo, .int (nI z.1), .int (nI z.2.1), .int z.2.2, .int (nI 0), .long fi])), (bo, .inr (0, [.ref hw, .int (nI b.2)])), (hw, .inl (cJ, 2500, .inr (.inl b.1)))]) hx hb hts hown hK hP hD hS 0 rfl (Nat.le_of_ble_eq_true rfl) rfl d_Scan_lookAtHead_2 (fun H locs hP hD hS => ?_)
  refine lv_aload_n hx hb d_Scan_lookAtHead_5 rfl (lv_at hl 0 rfl) ?_
  refine lv_lconst (v := 0) hx hb d_Scan_lookAtHead_6 (by decide +kernel) ?_
  refine p_Scan_28 (w2 := [(h0, .inr (2, [.ref bo, .int (nI z.1), .int (nI z.2.1), .int z.2.2, .int (nI 0), .long 0])), (bo, .inr (0, [.ref hw, .int (nI b.2)])), (hw, .inl (cJ, 2500, .inr (.inl b.1)))]) hx hb hts hown hK hP hD hS 0 rfl (Nat.le_of_ble_eq_true rfl) rfl d_Scan_lookAtHead_7 (fun H locs hP hD hS => ?_)
  refine lv_aload_n hx hb d_Scan_lookAtHead_10 rfl (lv_at hl 0 rfl) ?_
  refine z_callEl (wr := []) (w2 := [(h0, .inr (2, [.ref bo, .int (nI ((p_nv b z).2.1)), .int (nI ((p_nv b z).2.2.1)), .int ((p_nv b z).2.2.2), .int (nI 0), .long 0])), (bo, .inr (0, [.ref hw, .int (nI b.2)])), (hw, .inl (cJ, 2500, .inr (.inl b.1)))]) (z_runV (rest := []) hx hb hml hown hts hK hN (c_Scan_nextVarint l D cI cJ h0 bo z 0 0 hw b (by (try dsimp only); omega) hz.1 hz.2) kk_Scan_61 (zP.cut hP [0, 1, 2] rfl) (hD.sub [0, 1, 2] (by decide) rfl) 0 rfl rfl rfl hl.1 rfl (Nat.le_of_ble_eq_true rfl) d_Scan_lookAtHead_11 (by decide) (by decide)) hP hD hS hA [0, 1, 2] [] [0, 1, 2] rfl rfl (by decide) (by decide) (by decide) rfl (fun H locs hP hD hS => ?_)
  refine lv_lstore_n (lv' := [(1, .long ((p_nv b z).1)), (0, .ref h0)]) hx hb d_Scan_lookAtHead_14 rfl hl (by decide) rfl (fun ls hl => ?_)
  refine lv_aload_n hx hb d_Scan_lookAtHead_15 rfl (lv_at hl 1 rfl) ?_
  refine z_callEi (wr := [(bo, .inr (0, [.ref hw, .int (nI b.2)])), (hw, .inl (cJ, 2500, .inr (.inl b.1)))]) (w2 := [(h0, .inr (2, [.ref bo, .int (nI ((p_nv b z).2).1), .int (nI ((p_nv b z).2).2.1), .int (((p_nv b z).2).2.2), .int (nI 0), .long 0])), (bo, .inr (0, [.ref hw, .int (nI b.2)])), (hw, .inl (cJ, 2500, .inr (.inl b.1)))]) (z_runV (rest := []) hx hb hml hown hts hK hN (c_Scan_isFaultless l D cI cJ h0 bo ((p_nv b z).2) 0 0 h1.2) kk_Scan_44 (zP.cut hP [0] rfl) (hD.sub [0] (by decide) rfl) 0 rfl rfl rfl hl.1 rfl (Nat.le_of_ble_eq_true rfl) d_Scan_lookAtHead_16 (by decide) (by decide)) hP hD hS hA [0] [1, 2] [2, 0, 1] rfl rfl (by decide) (by decide) (by decide) rfl (fun H locs hP hD hS => ?_)
  refine zb_ne (tgt := 23) hx hb d_Scan_lookAtHead_19 (by decide) (fun c_19 => ?_) (fun c_19 => ?_)
  · skip
    have c_19 := of_decide_eq_true c_19
    refine lv_lload_n hx hb d_Scan_lookAtHead_23 rfl (lv_at hl 0 rfl) ?_
    refine lv_lconst (v := 0) hx hb d_Scan_lookAtHead_24 (by decide +kernel) ?_
    refine zl_lt hx hb d_Scan_lookAtHead_25 d_Scan_lookAtHead_26 (tgt := 37) (by decide) (fun c_25 => ?_) (fun c_25 => ?_)
    · skip
      refine lv_aload_n hx hb d_Scan_lookAtHead_37 rfl (lv_at hl 1 rfl) ?_
      refine lv_iconst (v := nI 4) hx hb d_Scan_lookAtHead_38 (by decide +kernel) ?_
      refine lv_iconst (v := nI 0) hx hb d_Scan_lookAtHead_39 (by decide +kernel) ?_
      refine z_callEv (wr := [(bo, .inr (0, [.ref hw, .int (nI b.2)])), (hw, .inl (cJ, 2500, .inr (.inl b.1)))]) (w2 := [(h0, .inr (2, [.ref bo, .int (nI ((((p_nv b z).2).1, 4, (nI 0)).1)), .int (nI ((((p_nv b z).2).1, 4, (nI 0)).2.1)), .int ((((p_nv b z).2).1, 4, (nI 0)).2.2), .int (nI 0), .long 0])), (bo, .inr (0, [.ref hw, .int (nI b.2)])), (hw, .inl (cJ, 2500, .inr (.inl b.1)))]) (z_runV (rest := []) hx hb hml hown hts hK hN (c_Scan_refuse l D cI cJ h0 bo ((p_nv b z).2) 0 0 4 (nI 0) ) kk_Scan_57 (zP.cut hP [0] rfl) (hD.sub [0] (by decide) rfl) 0 rfl rfl rfl hl.1 rfl (Nat.le_of_ble_eq_true rfl) d_Scan_lookAtHead_40 (by decide) (by decide)) hP hD hS hA [0] [1, 2] [2, 0, 1] rfl rfl (by decide) (by decide) (by decide) rfl (fun H locs hP hD hS => ?_)
      exact z_vret hx hb hr hlocks hS hP hD ⟨rfl, by unfold p_lh; rw [if_pos c_19, if_pos (by first | exact Or.inl c_25 | exact Or.inr (Int64.not_le.mp c_33))]⟩ d_Scan_lookAtHead_43
    · skip
      refine lv_lload_n hx hb d_Scan_lookAtHead_29 rfl (lv_at hl 0 rfl) ?_
      refine lv_ldc2 (v := (2000)) hx hb hown (kc_Scan_65 hts) d_Scan_lookAtHead_30 ?_
      refine zl_le hx hb d_Scan_lookAtHead_33 d_Scan_lookAtHead_34 (tgt := 44) (by decide) (fun c_33 => ?_) (fun c_33 => ?_)
      · skip
        have h8 := uT_le c_25 (fun q => absurd c_33 (Int64.not_le.mpr q))
        refine lv_aload_n hx hb d_Scan_lookAtHead_44 rfl (lv_at hl 1 rfl) ?_
        refine lv_lload_n hx hb d_Scan_lookAtHead_45 rfl (lv_at hl 0 rfl) ?_
        refine lv_l2i (v := ((p_nv b z).1).toInt32) hx hb d_Scan_lookAtHead_46 rfl ?_
        refine z_i (uT_i (p_nv b z).1) ?_
        refine p_Scan_25 (w2 := [(h0, .inr (2, [.ref bo, .int (nI ((p_nv b z).2).1), .int (nI ((p_nv b z).2).2.1), .int (((p_nv b z).2).2.2), .int (nI (uT (p_nv b z).1)), .long 0])), (bo, .inr (0, [.ref hw, .int (nI b.2)])), (hw, .inl (cJ, 2500, .inr (.inl b.1)))]) hx hb hts hown hK hP hD hS 0 rfl (Nat.le_of_ble_eq_true rfl) rfl d_Scan_lookAtHead_47 (fun H locs hP hD hS => ?_)
        refine lv_aload_n hx hb d_Scan_lookAtHead_50 rfl (lv_at hl 1 rfl) ?_
        refine g_Scan_25 hx hb hts hown hK hP 0 rfl rfl d_Scan_lookAtHead_51 ?_
        refine z0_le (a := uT (p_nv b z).1) (by omega) hx hb d_Scan_lookAtHead_54 (tgt := 68) (by decide) (fun c_54 => ?_) (fun c_54 => ?_)
        · skip
          exact z_vret hx hb hr hlocks hS hP hD ⟨rfl, by unfold p_lh; rw [if_pos c_19, if_neg (fun q => q.elim (fun q => c_25 q) (fun q => absurd c_33 (Int64.not_le.mpr q)))]; first | rw [if_pos c_54] | rw [if_neg (by omega)]⟩ d_Scan_lookAtHead_68
        · skip
          refine lv_aload_n hx hb d_Scan_lookAtHead_57 rfl (lv_at hl 1 rfl) ?_
          refine lv_aload_n hx hb d_Scan_lookAtHead_58 rfl (lv_at hl 1 rfl) ?_
          refine z_callEl (wr := []) (w2 := [(h0, .inr (2, [.ref bo, .int (nI ((p_nv b ((p_nv b z).2)).2.1)), .int (nI ((p_nv b ((p_nv b z).2)).2.2.1)), .int ((p_nv b ((p_nv b z).2)).2.2.2), .int (nI (uT (p_nv b z).1)), .long 0])), (bo, .inr (0, [.ref hw, .int (nI b.2)])), (hw, .inl (cJ, 2500, .inr (.inl b.1)))]) (z_runV (rest := [.ref h0]) hx hb hml hown hts hK hN (c_Scan_nextVarint l D cI cJ h0 bo ((p_nv b z).2) (uT (p_nv b z).1) 0 hw b (by (try dsimp only); omega) h1.1 h1.2) kk_Scan_61 (zP.cut hP [0, 1, 2] rfl) (hD.sub [0, 1, 2] (by decide) rfl) 0 rfl rfl rfl hl.1 rfl (Nat.le_of_ble_eq_true rfl) d_Scan_lookAtHead_59 (by decide) (by decide)) hP hD hS hA [0, 1, 2] [] [0, 1, 2] rfl rfl (by decide) (by decide) (by decide) rfl (fun H locs hP hD hS => ?_)
          refine z_callEl (wr := [(h0, .inr (2, [.ref bo, .int (nI ((p_nv b ((p_nv b z).2)).2.1)), .int (nI ((p_nv b ((p_nv b z).2)).2.2.1)), .int ((p_nv b ((p_nv b z).2)).2.2.2), .int (nI (uT (p_nv b z).1)), .long 0])), (bo, .inr (0, [.ref hw, .int (nI b.2)])), (hw, .inl (cJ, 2500, .inr (.inl b.1)))]) (w2 := [(h0, .inr (2, [.ref bo, .int (nI ((p_nv b ((p_nv b z).2)).2.1)), .int (nI ((p_nv b ((p_nv b z).2)).2.2.1)), .int ((p_nv b ((p_nv b z).2)).2.2.2), .int (nI (uT (p_nv b z).1)), .long 0])), (bo, .inr (0, [.ref hw, .int (nI b.2)])), (hw, .inl (cJ, 2500, .inr (.inl b.1)))]) (z_runSN (rest := [.ref h0]) hx hb hml hown hts hK hN (c_DeltaRows_unzigzag l D cI cJ ((p_nv b ((p_nv b z).2)).1) ) kk_Scan_67 (zP.cut hP [] rfl) (hD.sub [] (by decide) rfl) rfl hl.1 rfl (Nat.le_of_ble_eq_true rfl) d_Scan_lookAtHead_62 (by decide) (by decide)) hP hD hS hA [] [0, 1, 2] [0, 1, 2] rfl rfl (by decide) (by decide) (by decide) rfl (fun H locs hP hD hS => ?_)
          refine p_Scan_28 (w2 := [(h0, .inr (2, [.ref bo, .int (nI ((p_nv b ((p_nv b z).2)).2.1)), .int (nI ((p_nv b ((p_nv b z).2)).2.2.1)), .int ((p_nv b ((p_nv b z).2)).2.2.2), .int (nI (uT (p_nv b z).1)), .long (p_unzig ((p_nv b ((p_nv b z).2)).1))])), (bo, .inr (0, [.ref hw, .int (nI b.2)])), (hw, .inl (cJ, 2500, .inr (.inl b.1)))]) hx hb hts hown hK hP hD hS 0 rfl (Nat.le_of_ble_eq_true rfl) rfl d_Scan_lookAtHead_65 (fun H locs hP hD hS => ?_)
          exact z_vret hx hb hr hlocks hS hP hD ⟨rfl, by unfold p_lh; rw [if_pos c_19, if_neg (fun q => q.elim (fun q => c_25 q) (fun q => absurd c_33 (Int64.not_le.mpr q)))]; first | rw [if_pos c_54] | rw [if_neg (by omega)]⟩ d_Scan_lookAtHead_68
      · skip
        refine lv_aload_n hx hb d_Scan_lookAtHead_37 rfl (lv_at hl 1 rfl) ?_
        refine lv_iconst (v := nI 4) hx hb d_Scan_lookAtHead_38 (by decide +kernel) ?_
        refine lv_iconst (v := nI 0) hx hb d_Scan_lookAtHead_39 (by decide +kernel) ?_
        refine z_callEv (wr := [(bo, .inr (0, [.ref hw, .int (nI b.2)])), (hw, .inl (cJ, 2500, .inr (.inl b.1)))]) (w2 := [(h0, .inr (2, [.ref bo, .int (nI ((((p_nv b z).2).1, 4, (nI 0)).1)), .int (nI ((((p_nv b z).2).1, 4, (nI 0)).2.1)), .int ((((p_nv b z).2).1, 4, (nI 0)).2.2), .int (nI 0), .long 0])), (bo, .inr (0, [.ref hw, .int (nI b.2)])), (hw, .inl (cJ, 2500, .inr (.inl b.1)))]) (z_runV (rest := []) hx hb hml hown hts hK hN (c_Scan_refuse l D cI cJ h0 bo ((p_nv b z).2) 0 0 4 (nI 0) ) kk_Scan_57 (zP.cut hP [0] rfl) (hD.sub [0] (by decide) rfl) 0 rfl rfl rfl hl.1 rfl (Nat.le_of_ble_eq_true rfl) d_Scan_lookAtHead_40 (by decide) (by decide)) hP hD hS hA [0] [1, 2] [2, 0, 1] rfl rfl (by decide) (by decide) (by decide) rfl (fun H locs hP hD hS => ?_)
        exact z_vret hx hb hr hlocks hS hP hD ⟨rfl, by unfold p_lh; rw [if_pos c_19, if_pos (by first | exact Or.inl c_25 | exact Or.inr (Int64.not_le.mp c_33))]⟩ d_Scan_lookAtHead_43
  · skip
    have c_19 := of_decide_eq_false c_19
    exact z_vret hx hb hr hlocks hS hP hD ⟨rfl, by unfold p_lh; rw [if_neg c_19]⟩ d_Scan_lookAtHead_22

set_option maxHeartbeats 4000000 in
set_option maxRecDepth 100000 in
theorem c_Scan_lookAtBlock (l : Launch) (D : va_G) (cI cJ : ClassId) (h0 : Nat) (bo : Nat) (to : Nat) (fi : Int64) (hw : Nat) (b : BB) (f0 : Nat) (hl1 : Nat) (hi1 : Nat) (hs1 : Nat) (bc : Nat) (x : LL) (k : Nat) (hu : b.2 ≤ 20000) (hz : p_ok b x.1) (hto : to ≤ 2000) (hk : k < 32) : Ct l D (zT cI cJ) y_Scan_lookAtBlock b_Scan_lookAtBlock 4 none 5 117 0 0 [.ref h0, .ref f0, .int (nI k)] [(h0, .inr (2, [.ref bo, .int (nI x.1.1), .int (nI x.1.2.1), .int x.1.2.2, .int (nI to), .long fi])), (bo, .inr (0, [.ref hw, .int (nI b.2)])), (hw, .inl (cJ, 2500, .inr (.inl b.1))), (f0, .inr (1, [.int (nI bc), .ref hl1, .ref hi1, .ref hs1])), (hl1, .inl (cJ, 32, .inr (.inl x.2.1))), (hi1, .inl (cI, 128, .inl x.2.2.1)), (hs1, .inl (cI, 128, .inl x.2.2.2))] (zEq none [(h0, .inr (2, [.ref bo, .int (nI ((p_lb b to k x).1.1)), .int (nI ((p_lb b to k x).1.2.1)), .int ((p_lb b to k x).1.2.2), .int (nI to), .long fi])), (bo, .inr (0, [.ref hw, .int (nI b.2)])), (hw, .inl (cJ, 2500, .inr (.inl b.1))), (f0, .inr (1, [.int (nI bc), .ref hl1, .ref hi1, .ref hs1])), (hl1, .inl (cJ, 32, .inr (.inl ((p_lb b to k x).2.1)))), (hi1, .inl (cI, 128, .inl ((p_lb b to k x).2.2.1))), (hs1, .inl (cI, 128, .inl ((p_lb b to k x).2.2.2)))]) := by
  refine Ct.ofW (by decide) (Nat.le_of_ble_eq_true rfl) ?_
  intro p e s m below meth c A ls C0 hP hD hS hl
  obtain ⟨hx, hb, hml, hown, hts, hK, hN, hr, hlocks, hA, hnm⟩ := C0
  have hl : lv_has ls 4 [(0, .ref h0), (1, .ref f0), (2, .int (nI k))] := hl
  have hown : s.vm.findClass R_Scan = some m.cls := hown
  have h1 := p_ok_nv hz
  have h2 := p_ok_lw (to := to) (k := k) 4 0 ((p_nv b x.1).2, x.2.2.1) h1
  refine lv_aload_n hx hb d_Scan_lookAtBlock_0 rfl (lv_at hl 1 rfl) ?_
  refine g_Scan_71 hx hb hts hown hK hP 3 rfl rfl d_Scan_lookAtBlock_1 ?_
  refine lv_iload_n hx hb d_Scan_lookAtBlock_4 rfl (lv_at hl 2 rfl) ?_
  refine lv_aload_n hx hb d_Scan_lookAtBlock_5 rfl (lv_at hl 0 rfl) ?_
  refine z_callEl (wr := [(f0, .inr (1, [.int (nI bc), .ref hl1, .ref hi1, .ref hs1])), (hl1, .inl (cJ, 32, .inr (.inl x.2.1))), (hi1, .inl (cI, 128, .inl x.2.2.1)), (hs1, .inl (cI, 128, .inl x.2.2.2))]) (w2 := [(h0, .inr (2, [.ref bo, .int (nI ((p_nv b x.1).2.1)), .int (nI ((p_nv b x.1).2.2.1)), .int ((p_nv b x.1).2.2.2), .int (nI to), .long fi])), (bo, .inr (0, [.ref hw, .int (nI b.2)])), (hw, .inl (cJ, 2500, .inr (.inl b.1))), (f0, .inr (1, [.int (nI bc), .ref hl1, .ref hi1, .ref hs1])), (hl1, .inl (cJ, 32, .inr (.inl x.2.1))), (hi1, .inl (cI, 128, .inl x.2.2.1)), (hs1, .inl (cI, 128, .inl x.2.2.2))]) (z_runV (rest := [.int (nI k), .ref hl1]) hx hb hml hown hts hK hN (c_Scan_nextVarint l D cI cJ h0 bo x.1 to fi hw b (by (try dsimp only); omega) hz.1 hz.2) kk_Scan_61 (zP.cut hP [0, 1, 2] rfl) (hD.sub [0, 1, 2] (by decide) rfl) 0 rfl rfl rfl hl.1 rfl (Nat.le_of_ble_eq_true rfl) d_Scan_lookAtBlock_6 (by decide) (by decide)) hP hD hS hA [0, 1, 2] [3, 4, 5, 6] [4, 5, 6, 0, 1, 2, 3] rfl rfl (by decide) (by decide) (by decide) rfl (fun H locs hP hD hS => ?_)
  refine z_callEl (wr := [(h0, .inr (2, [.ref bo, .int (nI ((p_nv b x.1).2.1)), .int (nI ((p_nv b x.1).2.2.1)), .int ((p_nv b x.1).2.2.2), .int (nI to), .long fi])), (bo, .inr (0, [.ref hw, .int (nI b.2)])), (hw, .inl (cJ, 2500, .inr (.inl b.1))), (f0, .inr (1, [.int (nI bc), .ref hl1, .ref hi1, .ref hs1])), (hl1, .inl (cJ, 32, .inr (.inl x.2.1))), (hi1, .inl (cI, 128, .inl x.2.2.1)), (hs1, .inl (cI, 128, .inl x.2.2.2))]) (w2 := [(h0, .inr (2, [.ref bo, .int (nI ((p_nv b x.1).2.1)), .int (nI ((p_nv b x.1).2.2.1)), .int ((p_nv b x.1).2.2.2), .int (nI to), .long fi])), (bo, .inr (0, [.ref hw, .int (nI b.2)])), (hw, .inl (cJ, 2500, .inr (.inl b.1))), (f0, .inr (1, [.int (nI bc), .ref hl1, .ref hi1, .ref hs1])), (hl1, .inl (cJ, 32, .inr (.inl x.2.1))), (hi1, .inl (cI, 128, .inl x.2.2.1)), (hs1, .inl (cI, 128, .inl x.2.2.2))]) (z_runSN (rest := [.int (nI k), .ref hl1]) hx hb hml hown hts hK hN (c_DeltaRows_unzigzag l D cI cJ ((p_nv b x.1).1) ) kk_Scan_67 (zP.cut hP [] rfl) (hD.sub [] (by decide) rfl) rfl hl.1 rfl (Nat.le_of_ble_eq_true rfl) d_Scan_lookAtBlock_9 (by decide) (by decide)) hP hD hS hA [] [0, 1, 2, 3, 4, 5, 6] [0, 1, 2, 3, 4, 5, 6] rfl rfl (by decide) (by decide) (by decide) rfl (fun H locs hP hD hS => ?_)
  refine z_last (w2 := [(h0, .inr (2, [.ref bo, .int (nI ((p_nv b x.1).2.1)), .int (nI ((p_nv b x.1).2.2.1)), .int ((p_nv b x.1).2.2.2), .int (nI to), .long fi])), (bo, .inr (0, [.ref hw, .int (nI b.2)])), (hw, .inl (cJ, 2500, .inr (.inl b.1))), (f0, .inr (1, [.int (nI bc), .ref hl1, .ref hi1, .ref hs1])), (hl1, .inl (cJ, 32, .inr (.inl (vp_updL x.2.1 k (p_unzig ((p_nv b x.1).1)))))), (hi1, .inl (cI, 128, .inl x.2.2.1)), (hs1, .inl (cI, 128, .inl x.2.2.2))]) hx hb hK hP hD hS 4 1 rfl rfl (by omega) (by decide) d_Scan_lookAtBlock_12 rfl (fun H locs hP hD hS => ?_)
  have hj53 : ((p_lw b to k 4 0 ((p_nv b x.1).2, x.2.2.1)).1.2.1 = 0 → ∀ q, q < 4 → p_g8 (p_lw b to k 4 0 ((p_nv b x.1).2, x.2.2.1)).2 (k * 4 + q)) → ∀ (H : Heap) (locs : List Loc), va_P D classes [(h0, .inr (2, [.ref bo, .int (nI ((p_lw b to k 4 0 ((p_nv b x.1).2, x.2.2.1)).1.1)), .int (nI ((p_lw b to k 4 0 ((p_nv b x.1).2, x.2.2.1)).1.2.1)), .int ((p_lw b to k 4 0 ((p_nv b x.1).2, x.2.2.1)).1.2.2), .int (nI to), .long fi])), (bo, .inr (0, [.ref hw, .int (nI b.2)])), (hw, .inl (cJ, 2500, .inr (.inl b.1))), (f0, .inr (1, [.int (nI bc), .ref hl1, .ref hi1, .ref hs1])), (hl1, .inl (cJ, 32, .inr (.inl (vp_updL x.2.1 k (p_unzig (p_nv b x.1).1))))), (hi1, .inl (cI, 128, .inl ((p_lw b to k 4 0 ((p_nv b x.1).2, x.2.2.1)).2))), (hs1, .inl (cI, 128, .inl x.2.2.2))] H → va_D A [(h0, .inr (2, [.ref bo, .int (nI ((p_lw b to k 4 0 ((p_nv b x.1).2, x.2.2.1)).1.1)), .int (nI ((p_lw b to k 4 0 ((p_nv b x.1).2, x.2.2.1)).1.2.1)), .int ((p_lw b to k 4 0 ((p_nv b x.1).2, x.2.2.1)).1.2.2), .int (nI to), .long fi])), (bo, .inr (0, [.ref hw, .int (nI b.2)])), (hw, .inl (cJ, 2500, .inr (.inl b.1))), (f0, .inr (1, [.int (nI bc), .ref hl1, .ref hi1, .ref hs1])), (hl1, .inl (cJ, 32, .inr (.inl (vp_updL x.2.1 k (p_unzig (p_nv b x.1).1))))), (hi1, .inl (cI, 128, .inl ((p_lw b to k 4 0 ((p_nv b x.1).2, x.2.2.1)).2))), (hs1, .inl (cI, 128, .inl x.2.2.2))] → va_S A s.heap H locs → ∀ (ls : Array Slot), lv_has ls 4 [(0, .ref h0), (1, .ref f0), (2, .int (nI k))] → W p l e { frames := 5, cells := 0, slots := 0, locals := 117 } s m ([.ref h0, .ref f0, .int (nI k)] : List Value).toArray below meth c H locs 0 0 (MQ below (zQ D (zEq none [(h0, .inr (2, [.ref bo, .int (nI ((p_lb b to k x).1.1)), .int (nI ((p_lb b to k x).1.2.1)), .int ((p_lb b to k x).1.2.2), .int (nI to), .long fi])), (bo, .inr (0, [.ref hw, .int (nI b.2)])), (hw, .inl (cJ, 2500, .inr (.inl b.1))), (f0, .inr (1, [.int (nI bc), .ref hl1, .ref hi1, .ref hs1])), (hl1, .inl (cJ, 32, .inr (.inl ((p_lb b to k x).2.1)))), (hi1, .inl (cI, 128, .inl ((p_lb b to k x).2.2.1))), (hs1, .inl (cI, 128, .inl ((p_lb b to k x).2.2.2)))]) A) ([.ref h0, .ref f0, .int (nI k)] : List Value).toArray s 0 0 A) (F0 m 53 ls []) := by
    intro  hg H locs hP hD hS ls hl
    refine lv_iconst (v := nI 0) hx hb d_Scan_lookAtBlock_53 (by decide +kernel) ?_
    refine lv_istore_n (lv' := [(3, .int (nI 0)), (0, .ref h0), (1, .ref f0), (2, .int (nI k))]) hx hb d_Scan_lookAtBlock_54 rfl hl (by decide) rfl (fun ls hl => ?_)
    have hlp55 : ∀ (n : Nat) (i : Nat) (y : SS × (Nat → Int32)), (i ≤ 4) → (p_ok b y.1) → ((∀ q, q < 4 → p_g8 (p_lw b to k 4 0 ((p_nv b x.1).2, x.2.2.1)).2 (k * 4 + q)) ∨ ¬ y.1.2.1 = 0) → (p_lp b to k (p_lw b to k 4 0 ((p_nv b x.1).2, x.2.2.1)).2 (4 - i) i y = p_lp b to k (p_lw b to k 4 0 ((p_nv b x.1).2, x.2.2.1)).2 4 0 ((p_lw b to k 4 0 ((p_nv b x.1).2, x.2.2.1)).1, x.2.2.2)) → 4 - i < n → ∀ (H : Heap) (locs : List Loc), va_P D classes [(h0, .inr (2, [.ref bo, .int (nI y.1.1), .int (nI y.1.2.1), .int y.1.2.2, .int (nI to), .long fi])), (bo, .inr (0, [.ref hw, .int (nI b.2)])), (hw, .inl (cJ, 2500, .inr (.inl b.1))), (f0, .inr (1, [.int (nI bc), .ref hl1, .ref hi1, .ref hs1])), (hl1, .inl (cJ, 32, .inr (.inl (vp_updL x.2.1 k (p_unzig (p_nv b x.1).1))))), (hi1, .inl (cI, 128, .inl ((p_lw b to k 4 0 ((p_nv b x.1).2, x.2.2.1)).2))), (hs1, .inl (cI, 128, .inl y.2))] H → va_D A [(h0, .inr (2, [.ref bo, .int (nI y.1.1), .int (nI y.1.2.1), .int y.1.2.2, .int (nI to), .long fi])), (bo, .inr (0, [.ref hw, .int (nI b.2)])), (hw, .inl (cJ, 2500, .inr (.inl b.1))), (f0, .inr (1, [.int (nI bc), .ref hl1, .ref hi1, .ref hs1])), (hl1, .inl (cJ, 32, .inr (.inl (vp_updL x.2.1 k (p_unzig (p_nv b x.1).1))))), (hi1, .inl (cI, 128, .inl ((p_lw b to k 4 0 ((p_nv b x.1).2, x.2.2.1)).2))), (hs1, .inl (cI, 128, .inl y.2))] → va_S A s.heap H locs → ∀ (ls : Array Slot), lv_has ls 4 [(0, .ref h0), (1, .ref f0), (2, .int (nI k)), (3, .int (nI i))] → W p l e { frames := 5, cells := 0, slots := 0, locals := 117 } s m ([.ref h0, .ref f0, .int (nI k)] : List Value).toArray below meth c H locs 0 0 (MQ below (zQ D (zEq none [(h0, .inr (2, [.ref bo, .int (nI ((p_lb b to k x).1.1)), .int (nI ((p_lb b to k x).1.2.1)), .int ((p_lb b to k x).1.2.2), .int (nI to), .long fi])), (bo, .inr (0, [.ref hw, .int (nI b.2)])), (hw, .inl (cJ, 2500, .inr (.inl b.1))), (f0, .inr (1, [.int (nI bc), .ref hl1, .ref hi1, .ref hs1])), (hl1, .inl (cJ, 32, .inr (.inl ((p_lb b to k x).2.1)))), (hi1, .inl (cI, 128, .inl ((p_lb b to k x).2.2.1))), (hs1, .inl (cI, 128, .inl ((p_lb b to k x).2.2.2)))]) A) ([.ref h0, .ref f0, .int (nI k)] : List Value).toArray s 0 0 A) (F0 m 55 ls []) := by
      intro n
      induction n with
      | zero => intro i y hi hy ho hR hmu; exact absurd hmu (Nat.not_lt_zero _)
      | succ n ih =>
        intro i y hi hy ho hR hmu H locs hP hD hS ls hl
        have ih55 := ih
        refine lv_iload_n hx hb d_Scan_lookAtBlock_55 rfl (lv_at hl 3 rfl) ?_
        refine lv_iconst (v := nI 4) hx hb d_Scan_lookAtBlock_56 (by decide +kernel) ?_
        refine zn_ge (a := i) (b := 4) (by omega) (by omega) hx hb d_Scan_lookAtBlock_57 (tgt := 107) (by decide) (fun c_57 => ?_) (fun c_57 => ?_)
        · skip
          exact z_vret hx hb hr hlocks hS hP hD ⟨rfl, by unfold p_lb; rw [← hR]; first | (rw [show 4 - i = 0 by omega]; rfl) | (rw [show 4 - i = (4 - (i + 1)) + 1 by omega, p_lp, if_neg (of_decide_eq_false c_64)] <;> rfl)⟩ d_Scan_lookAtBlock_107
        · skip
          refine lv_aload_n hx hb d_Scan_lookAtBlock_60 rfl (lv_at hl 0 rfl) ?_
          refine z_callEi (wr := [(bo, .inr (0, [.ref hw, .int (nI b.2)])), (hw, .inl (cJ, 2500, .inr (.inl b.1))), (f0, .inr (1, [.int (nI bc), .ref hl1, .ref hi1, .ref hs1])), (hl1, .inl (cJ, 32, .inr (.inl (vp_updL x.2.1 k (p_unzig (p_nv b x.1).1))))), (hi1, .inl (cI, 128, .inl ((p_lw b to k 4 0 ((p_nv b x.1).2, x.2.2.1)).2))), (hs1, .inl (cI, 128, .inl y.2))]) (w2 := [(h0, .inr (2, [.ref bo, .int (nI y.1.1), .int (nI y.1.2.1), .int y.1.2.2, .int (nI to), .long fi])), (bo, .inr (0, [.ref hw, .int (nI b.2)])), (hw, .inl (cJ, 2500, .inr (.inl b.1))), (f0, .inr (1, [.int (nI bc), .ref hl1, .ref hi1, .ref hs1])), (hl1, .inl (cJ, 32, .inr (.inl (vp_updL x.2.1 k (p_unzig (p_nv b x.1).1))))), (hi1, .inl (cI, 128, .inl ((p_lw b to k 4 0 ((p_nv b x.1).2, x.2.2.1)).2))), (hs1, .inl (cI, 128, .inl y.2))]) (z_runV (rest := []) hx hb hml hown hts hK hN (c_Scan_isFaultless l D cI cJ h0 bo y.1 to fi hy.2) kk_Scan_44 (zP.cut hP [0] rfl) (hD.sub [0] (by decide) rfl) 0 rfl rfl rfl hl.1 rfl (Nat.le_of_ble_eq_true rfl) d_Scan_lookAtBlock_61 (by decide) (by decide)) hP hD hS hA [0] [1, 2, 3, 4, 5, 6] [6, 0, 1, 2, 3, 4, 5] rfl rfl (by decide) (by decide) (by decide) rfl (fun H locs hP hD hS => ?_)
          refine zb_eq (tgt := 107) hx hb d_Scan_lookAtBlock_64 (by decide) (fun c_64 => ?_) (fun c_64 => ?_)
          · skip
            exact z_vret hx hb hr hlocks hS hP hD ⟨rfl, by unfold p_lb; rw [← hR]; first | (rw [show 4 - i = 0 by omega]; rfl) | (rw [show 4 - i = (4 - (i + 1)) + 1 by omega, p_lp, if_neg (of_decide_eq_false c_64)] <;> rfl)⟩ d_Scan_lookAtBlock_107
          · skip
            refine lv_aload_n hx hb d_Scan_lookAtBlock_67 rfl (lv_at hl 1 rfl) ?_
            refine g_Scan_86 hx hb hts hown hK hP 3 rfl rfl d_Scan_lookAtBlock_68 ?_
            refine lv_iload_n hx hb d_Scan_lookAtBlock_71 rfl (lv_at hl 2 rfl) ?_
            refine lv_iconst (v := nI 4) hx hb d_Scan_lookAtBlock_72 (by decide +kernel) ?_
            refine lv_imul hx hb d_Scan_lookAtBlock_73 (z_i (pk_mul k 4) ?_)
            refine lv_iload_n hx hb d_Scan_lookAtBlock_74 rfl (lv_at hl 3 rfl) ?_
            refine lv_iadd hx hb d_Scan_lookAtBlock_75 (z_i (nI_add (k * 4) i) ?_)
            refine lv_aload_n hx hb d_Scan_lookAtBlock_76 rfl (lv_at hl 0 rfl) ?_
            refine g_Scan_15 hx hb hts hown hK hP 0 rfl rfl d_Scan_lookAtBlock_77 ?_
            refine z_iast (w2 := [(h0, .inr (2, [.ref bo, .int (nI y.1.1), .int (nI y.1.2.1), .int y.1.2.2, .int (nI to), .long fi])), (bo, .inr (0, [.ref hw, .int (nI b.2)])), (hw, .inl (cJ, 2500, .inr (.inl b.1))), (f0, .inr (1, [.int (nI bc), .ref hl1, .ref hi1, .ref hs1])), (hl1, .inl (cJ, 32, .inr (.inl (vp_updL x.2.1 k (p_unzig (p_nv b x.1).1))))), (hi1, .inl (cI, 128, .inl ((p_lw b to k 4 0 ((p_nv b x.1).2, x.2.2.1)).2))), (hs1, .inl (cI, 128, .inl (upd y.2 (k * 4 + i) (nI y.1.1))))]) hx hb hK hP hD hS 6 0 rfl rfl (by omega) (by decide) d_Scan_lookAtBlock_80 rfl (fun H locs hP hD hS => ?_)
            refine lv_aload_n hx hb d_Scan_lookAtBlock_81 rfl (lv_at hl 0 rfl) ?_
            refine lv_aload_n hx hb d_Scan_lookAtBlock_82 rfl (lv_at hl 1 rfl) ?_
            refine g_Scan_75 hx hb hts hown hK hP 3 rfl rfl d_Scan_lookAtBlock_83 ?_
            refine lv_iload_n hx hb d_Scan_lookAtBlock_86 rfl (lv_at hl 2 rfl) ?_
            refine lv_iconst (v := nI 4) hx hb d_Scan_lookAtBlock_87 (by decide +kernel) ?_
            refine lv_imul hx hb d_Scan_lookAtBlock_88 (z_i (pk_mul k 4) ?_)
            refine lv_iload_n hx hb d_Scan_lookAtBlock_89 rfl (lv_at hl 3 rfl) ?_
            refine lv_iadd hx hb d_Scan_lookAtBlock_90 (z_i (nI_add (k * 4) i) ?_)
            refine z_iald hx hb hK hP 5 0 rfl rfl (by omega) (by decide) d_Scan_lookAtBlock_91 ?_
            refine z_i (((ho.resolve_right (fun q => q (of_decide_eq_true c_64))) i c_57).1) ?_
            refine lv_aload_n hx hb d_Scan_lookAtBlock_92 rfl (lv_at hl 0 rfl) ?_
            refine lv_iload_n hx hb d_Scan_lookAtBlock_93 rfl (lv_at hl 2 rfl) ?_
            refine lv_iload_n hx hb d_Scan_lookAtBlock_94 rfl (lv_at hl 3 rfl) ?_
            refine z_callEi (wr := [(bo, .inr (0, [.ref hw, .int (nI b.2)])), (hw, .inl (cJ, 2500, .inr (.inl b.1))), (f0, .inr (1, [.int (nI bc), .ref hl1, .ref hi1, .ref hs1])), (hl1, .inl (cJ, 32, .inr (.inl (vp_updL x.2.1 k (p_unzig (p_nv b x.1).1))))), (hi1, .inl (cI, 128, .inl ((p_lw b to k 4 0 ((p_nv b x.1).2, x.2.2.1)).2))), (hs1, .inl (cI, 128, .inl (upd y.2 (k * 4 + i) (nI y.1.1))))]) (w2 := [(h0, .inr (2, [.ref bo, .int (nI y.1.1), .int (nI y.1.2.1), .int y.1.2.2, .int (nI to), .long fi])), (bo, .inr (0, [.ref hw, .int (nI b.2)])), (hw, .inl (cJ, 2500, .inr (.inl b.1))), (f0, .inr (1, [.int (nI bc), .ref hl1, .ref hi1, .ref hs1])), (hl1, .inl (cJ, 32, .inr (.inl (vp_updL x.2.1 k (p_unzig (p_nv b x.1).1))))), (hi1, .inl (cI, 128, .inl ((p_lw b to k 4 0 ((p_nv b x.1).2, x.2.2.1)).2))), (hs1, .inl (cI, 128, .inl (upd y.2 (k * 4 + i) (nI y.1.1))))]) (z_runV (rest := [.int (nI (cl (p_lw b to k 4 0 ((p_nv b x.1).2, x.2.2.1)).2 (k * 4 + i))), .ref h0]) hx hb hml hown hts hK hN (c_Scan_longsOf l D cI cJ h0 bo y.1 to fi k i (by (try dsimp only); omega) (by (try dsimp only); omega) (by (try dsimp only); omega)) kk_Scan_79 (zP.cut hP [0] rfl) (hD.sub [0] (by decide) rfl) 0 rfl rfl rfl hl.1 rfl (Nat.le_of_ble_eq_true rfl) d_Scan_lookAtBlock_95 (by decide) (by decide)) hP hD hS hA [0] [1, 2, 3, 4, 5, 6] [6, 0, 1, 2, 3, 4, 5] rfl rfl (by decide) (by decide) (by decide) rfl (fun H locs hP hD hS => ?_)
            refine z_callEv (wr := [(f0, .inr (1, [.int (nI bc), .ref hl1, .ref hi1, .ref hs1])), (hl1, .inl (cJ, 32, .inr (.inl (vp_updL x.2.1 k (p_unzig (p_nv b x.1).1))))), (hi1, .inl (cI, 128, .inl ((p_lw b to k 4 0 ((p_nv b x.1).2, x.2.2.1)).2))), (hs1, .inl (cI, 128, .inl (upd y.2 (k * 4 + i) (nI y.1.1))))]) (w2 := [(h0, .inr (2, [.ref bo, .int (nI ((p_pp b y.1 (cl (p_lw b to k 4 0 ((p_nv b x.1).2, x.2.2.1)).2 (k * 4 + i)) (p_lo to k i)).1)), .int (nI ((p_pp b y.1 (cl (p_lw b to k 4 0 ((p_nv b x.1).2, x.2.2.1)).2 (k * 4 + i)) (p_lo to k i)).2.1)), .int ((p_pp b y.1 (cl (p_lw b to k 4 0 ((p_nv b x.1).2, x.2.2.1)).2 (k * 4 + i)) (p_lo to k i)).2.2), .int (nI to), .long fi])), (bo, .inr (0, [.ref hw, .int (nI b.2)])), (hw, .inl (cJ, 2500, .inr (.inl b.1))), (f0, .inr (1, [.int (nI bc), .ref hl1, .ref hi1, .ref hs1])), (hl1, .inl (cJ, 32, .inr (.inl (vp_updL x.2.1 k (p_unzig (p_nv b x.1).1))))), (hi1, .inl (cI, 128, .inl ((p_lw b to k 4 0 ((p_nv b x.1).2, x.2.2.1)).2))), (hs1, .inl (cI, 128, .inl (upd y.2 (k * 4 + i) (nI y.1.1))))]) (z_runV (rest := []) hx hb hml hown hts hK hN (c_Scan_passPart l D cI cJ h0 bo y.1 to fi hw b (cl (p_lw b to k 4 0 ((p_nv b x.1).2, x.2.2.1)).2 (k * 4 + i)) (p_lo to k i) (by (try dsimp only); omega) hy.1 (((ho.resolve_right (fun q => q (of_decide_eq_true c_64))) i c_57).2) (p_lo_le _ _ _)) kk_Scan_89 (zP.cut hP [0, 1, 2] rfl) (hD.sub [0, 1, 2] (by decide) rfl) 0 rfl rfl rfl hl.1 rfl (Nat.le_of_ble_eq_true rfl) d_Scan_lookAtBlock_98 (by decide) (by decide)) hP hD hS hA [0, 1, 2] [3, 4, 5, 6] [4, 5, 6, 0, 1, 2, 3] rfl rfl (by decide) (by decide) (by decide) rfl (fun H locs hP hD hS => ?_)
            refine lv_iinc (v := nI (i + 1)) (lv' := [(3, .int (nI (i + 1))), (0, .ref h0), (1, .ref f0), (2, .int (nI k))]) hx hb d_Scan_lookAtBlock_101 hl (k := 3) rfl (zinc i 1) (by decide) rfl (fun ls hl => ?_)
            refine lv_goto (tgt := 55) hx hb d_Scan_lookAtBlock_104 (by decide) ?_
            exact ih55 (i + 1) (p_pp b y.1 (cl (p_lw b to k 4 0 ((p_nv b x.1).2, x.2.2.1)).2 (k * 4 + i)) (p_lo to k i), upd y.2 (k * 4 + i) (nI y.1.1)) (by omega) (p_ok_pp hy) (Or.inl (ho.resolve_right (fun q => q (of_decide_eq_true c_64)))) (by rw [show 4 - i = (4 - (i + 1)) + 1 by omega, p_lp, if_pos (of_decide_eq_true c_64)] at hR; exact hR) (by omega) _ _ hP hD hS ls (lv_sub hl [1, 2, 3, 0] rfl)
    exact hlp55 _ 0 ((p_lw b to k 4 0 ((p_nv b x.1).2, x.2.2.1)).1, x.2.2.2) (by decide) h2 (by by_cases e : (p_lw b to k 4 0 ((p_nv b x.1).2, x.2.2.1)).1.2.1 = 0; exact Or.inl (hg e); exact Or.inr e) rfl (Nat.lt_succ_self _) _ _ hP hD hS ls (lv_sub hl [1, 2, 3, 0] rfl)
  refine lv_iconst (v := nI 0) hx hb d_Scan_lookAtBlock_13 (by decide +kernel) ?_
  refine lv_istore_n (lv' := [(3, .int (nI 0)), (0, .ref h0), (1, .ref f0), (2, .int (nI k))]) hx hb d_Scan_lookAtBlock_14 rfl hl (by decide) rfl (fun ls hl => ?_)
  have hlp15 : ∀ (n : Nat) (i : Nat) (y : SS × (Nat → Int32)), (i ≤ 4) → (p_ok b y.1) → (∀ q, q < i → p_g8 y.2 (k * 4 + q)) → (p_lw b to k (4 - i) i y = (p_lw b to k 4 0 ((p_nv b x.1).2, x.2.2.1))) → 4 - i < n → ∀ (H : Heap) (locs : List Loc), va_P D classes [(h0, .inr (2, [.ref bo, .int (nI y.1.1), .int (nI y.1.2.1), .int y.1.2.2, .int (nI to), .long fi])), (bo, .inr (0, [.ref hw, .int (nI b.2)])), (hw, .inl (cJ, 2500, .inr (.inl b.1))), (f0, .inr (1, [.int (nI bc), .ref hl1, .ref hi1, .ref hs1])), (hl1, .inl (cJ, 32, .inr (.inl (vp_updL x.2.1 k (p_unzig (p_nv b x.1).1))))), (hi1, .inl (cI, 128, .inl y.2)), (hs1, .inl (cI, 128, .inl x.2.2.2))] H → va_D A [(h0, .inr (2, [.ref bo, .int (nI y.1.1), .int (nI y.1.2.1), .int y.1.2.2, .int (nI to), .long fi])), (bo, .inr (0, [.ref hw, .int (nI b.2)])), (hw, .inl (cJ, 2500, .inr (.inl b.1))), (f0, .inr (1, [.int (nI bc), .ref hl1, .ref hi1, .ref hs1])), (hl1, .inl (cJ, 32, .inr (.inl (vp_updL x.2.1 k (p_unzig (p_nv b x.1).1))))), (hi1, .inl (cI, 128, .inl y.2)), (hs1, .inl (cI, 128, .inl x.2.2.2))] → va_S A s.heap H locs → ∀ (ls : Array Slot), lv_has ls 4 [(0, .ref h0), (1, .ref f0), (2, .int (nI k)), (3, .int (nI i))] → W p l e { frames := 5, cells := 0, slots := 0, locals := 117 } s m ([.ref h0, .ref f0, .int (nI k)] : List Value).toArray below meth c H locs 0 0 (MQ below (zQ D (zEq none [(h0, .inr (2, [.ref bo, .int (nI ((p_lb b to k x).1.1)), .int (nI ((p_lb b to k x).1.2.1)), .int ((p_lb b to k x).1.2.2), .int (nI to), .long fi])), (bo, .inr (0, [.ref hw, .int (nI b.2)])), (hw, .inl (cJ, 2500, .inr (.inl b.1))), (f0, .inr (1, [.int (nI bc), .ref hl1, .ref hi1, .ref hs1])), (hl1, .inl (cJ, 32, .inr (.inl ((p_lb b to k x).2.1)))), (hi1, .inl (cI, 128, .inl ((p_lb b to k x).2.2.1))), (hs1, .inl (cI, 128, .inl ((p_lb b to k x).2.2.2)))]) A) ([.ref h0, .ref f0, .int (nI k)] : List Value).toArray s 0 0 A) (F0 m 15 ls []) := by
    intro n
    induction n with
    | zero => intro i y hi hy hG hR hmu; exact absurd hmu (Nat.not_lt_zero _)
    | succ n ih =>
      intro i y hi hy hG hR hmu H locs hP hD hS ls hl
      have ih15 := ih
      refine lv_iload_n hx hb d_Scan_lookAtBlock_15 rfl (lv_at hl 3 rfl) ?_
      refine lv_iconst (v := nI 4) hx hb d_Scan_lookAtBlock_16 (by decide +kernel) ?_
      refine zn_ge (a := i) (b := 4) (by omega) (by omega) hx hb d_Scan_lookAtBlock_17 (tgt := 53) (by decide) (fun c_17 => ?_) (fun c_17 => ?_)
      · skip
        have hX : y = (p_lw b to k 4 0 ((p_nv b x.1).2, x.2.2.1)) := by rw [← hR]; first | (rw [show 4 - i = 0 by omega]; rfl) | (rw [show 4 - i = (4 - (i + 1)) + 1 by omega, p_lw, if_neg (of_decide_eq_false c_24)])
        subst hX
        exact hj53  (fun hq => by first | (intro q hq4; exact hG q (by omega)) | (exact absurd hq (of_decide_eq_false c_24))) _ _ hP hD hS ls (lv_sub hl [0, 1, 2] rfl)
      · skip
        refine lv_aload_n hx hb d_Scan_lookAtBlock_20 rfl (lv_at hl 0 rfl) ?_
        refine z_callEi (wr := [(bo, .inr (0, [.ref hw, .int (nI b.2)])), (hw, .inl (cJ, 2500, .inr (.inl b.1))), (f0, .inr (1, [.int (nI bc), .ref hl1, .ref hi1, .ref hs1])), (hl1, .inl (cJ, 32, .inr (.inl (vp_updL x.2.1 k (p_unzig (p_nv b x.1).1))))), (hi1, .inl (cI, 128, .inl y.2)), (hs1, .inl (cI, 128, .inl x.2.2.2))]) (w2 := [(h0, .inr (2, [.ref bo, .int (nI y.1.1), .int (nI y.1.2.1), .int y.1.2.2, .int (nI to), .long fi])), (bo, .inr (0, [.ref hw, .int (nI b.2)])), (hw, .inl (cJ, 2500, .inr (.inl b.1))), (f0, .inr (1, [.int (nI bc), .ref hl1, .ref hi1, .ref hs1])), (hl1, .inl (cJ, 32, .inr (.inl (vp_updL x.2.1 k (p_unzig (p_nv b x.1).1))))), (hi1, .inl (cI, 128, .inl y.2)), (hs1, .inl (cI, 128, .inl x.2.2.2))]) (z_runV (rest := []) hx hb hml hown hts hK hN (c_Scan_isFaultless l D cI cJ h0 bo y.1 to fi hy.2) kk_Scan_44 (zP.cut hP [0] rfl) (hD.sub [0] (by decide) rfl) 0 rfl rfl rfl hl.1 rfl (Nat.le_of_ble_eq_true rfl) d_Scan_lookAtBlock_21 (by decide) (by decide)) hP hD hS hA [0] [1, 2, 3, 4, 5, 6] [6, 0, 1, 2, 3, 4, 5] rfl rfl (by decide) (by decide) (by decide) rfl (fun H locs hP hD hS => ?_)
        refine zb_eq (tgt := 53) hx hb d_Scan_lookAtBlock_24 (by decide) (fun c_24 => ?_) (fun c_24 => ?_)
        · skip
          have hX : y = (p_lw b to k 4 0 ((p_nv b x.1).2, x.2.2.1)) := by rw [← hR]; first | (rw [show 4 - i = 0 by omega]; rfl) | (rw [show 4 - i = (4 - (i + 1)) + 1 by omega, p_lw, if_neg (of_decide_eq_false c_24)])
          subst hX
          exact hj53  (fun hq => by first | (intro q hq4; exact hG q (by omega)) | (exact absurd hq (of_decide_eq_false c_24))) _ _ hP hD hS ls (lv_sub hl [0, 1, 2] rfl)
        · skip
          refine lv_aload_n hx hb d_Scan_lookAtBlock_27 rfl (lv_at hl 1 rfl) ?_
          refine g_Scan_75 hx hb hts hown hK hP 3 rfl rfl d_Scan_lookAtBlock_28 ?_
          refine lv_iload_n hx hb d_Scan_lookAtBlock_31 rfl (lv_at hl 2 rfl) ?_
          refine lv_iconst (v := nI 4) hx hb d_Scan_lookAtBlock_32 (by decide +kernel) ?_
          refine lv_imul hx hb d_Scan_lookAtBlock_33 (z_i (pk_mul k 4) ?_)
          refine lv_iload_n hx hb d_Scan_lookAtBlock_34 rfl (lv_at hl 3 rfl) ?_
          refine lv_iadd hx hb d_Scan_lookAtBlock_35 (z_i (nI_add (k * 4) i) ?_)
          refine lv_aload_n hx hb d_Scan_lookAtBlock_36 rfl (lv_at hl 0 rfl) ?_
          refine lv_aload_n hx hb d_Scan_lookAtBlock_37 rfl (lv_at hl 0 rfl) ?_
          refine lv_iload_n hx hb d_Scan_lookAtBlock_38 rfl (lv_at hl 2 rfl) ?_
          refine lv_iload_n hx hb d_Scan_lookAtBlock_39 rfl (lv_at hl 3 rfl) ?_
          refine z_callEi (wr := [(bo, .inr (0, [.ref hw, .int (nI b.2)])), (hw, .inl (cJ, 2500, .inr (.inl b.1))), (f0, .inr (1, [.int (nI bc), .ref hl1, .ref hi1, .ref hs1])), (hl1, .inl (cJ, 32, .inr (.inl (vp_updL x.2.1 k (p_unzig (p_nv b x.1).1))))), (hi1, .inl (cI, 128, .inl y.2)), (hs1, .inl (cI, 128, .inl x.2.2.2))]) (w2 := [(h0, .inr (2, [.ref bo, .int (nI y.1.1), .int (nI y.1.2.1), .int y.1.2.2, .int (nI to), .long fi])), (bo, .inr (0, [.ref hw, .int (nI b.2)])), (hw, .inl (cJ, 2500, .inr (.inl b.1))), (f0, .inr (1, [.int (nI bc), .ref hl1, .ref hi1, .ref hs1])), (hl1, .inl (cJ, 32, .inr (.inl (vp_updL x.2.1 k (p_unzig (p_nv b x.1).1))))), (hi1, .inl (cI, 128, .inl y.2)), (hs1, .inl (cI, 128, .inl x.2.2.2))]) (z_runV (rest := [.ref h0, .int (nI (k * 4 + i)), .ref hi1]) hx hb hml hown hts hK hN (c_Scan_longsOf l D cI cJ h0 bo y.1 to fi k i (by (try dsimp only); omega) (by (try dsimp only); omega) (by (try dsimp only); omega)) kk_Scan_79 (zP.cut hP [0] rfl) (hD.sub [0] (by decide) rfl) 0 rfl rfl rfl hl.1 rfl (Nat.le_of_ble_eq_true rfl) d_Scan_lookAtBlock_40 (by decide) (by decide)) hP hD hS hA [0] [1, 2, 3, 4, 5, 6] [6, 0, 1, 2, 3, 4, 5] rfl rfl (by decide) (by decide) (by decide) rfl (fun H locs hP hD hS => ?_)
          refine z_callEi (wr := [(f0, .inr (1, [.int (nI bc), .ref hl1, .ref hi1, .ref hs1])), (hl1, .inl (cJ, 32, .inr (.inl (vp_updL x.2.1 k (p_unzig (p_nv b x.1).1))))), (hi1, .inl (cI, 128, .inl y.2)), (hs1, .inl (cI, 128, .inl x.2.2.2))]) (w2 := [(h0, .inr (2, [.ref bo, .int (nI ((p_nwS b y.1 (p_lo to k i)).1)), .int (nI ((p_nwS b y.1 (p_lo to k i)).2.1)), .int ((p_nwS b y.1 (p_lo to k i)).2.2), .int (nI to), .long fi])), (bo, .inr (0, [.ref hw, .int (nI b.2)])), (hw, .inl (cJ, 2500, .inr (.inl b.1))), (f0, .inr (1, [.int (nI bc), .ref hl1, .ref hi1, .ref hs1])), (hl1, .inl (cJ, 32, .inr (.inl (vp_updL x.2.1 k (p_unzig (p_nv b x.1).1))))), (hi1, .inl (cI, 128, .inl y.2)), (hs1, .inl (cI, 128, .inl x.2.2.2))]) (z_runV (rest := [.int (nI (k * 4 + i)), .ref hi1]) hx hb hml hown hts hK hN (c_Scan_nextWidth l D cI cJ h0 bo y.1 to fi hw b (p_lo to k i) (by (try dsimp only); omega) hy.1 (p_lo_le _ _ _)) kk_Scan_83 (zP.cut hP [0, 1, 2] rfl) (hD.sub [0, 1, 2] (by decide) rfl) 0 rfl rfl rfl hl.1 rfl (Nat.le_of_ble_eq_true rfl) d_Scan_lookAtBlock_43 (by decide) (by decide)) hP hD hS hA [0, 1, 2] [3, 4, 5, 6] [4, 5, 6, 0, 1, 2, 3] rfl rfl (by decide) (by decide) (by decide) rfl (fun H locs hP hD hS => ?_)
          refine z_iast (w2 := [(h0, .inr (2, [.ref bo, .int (nI ((p_nwS b y.1 (p_lo to k i)).1)), .int (nI ((p_nwS b y.1 (p_lo to k i)).2.1)), .int ((p_nwS b y.1 (p_lo to k i)).2.2), .int (nI to), .long fi])), (bo, .inr (0, [.ref hw, .int (nI b.2)])), (hw, .inl (cJ, 2500, .inr (.inl b.1))), (f0, .inr (1, [.int (nI bc), .ref hl1, .ref hi1, .ref hs1])), (hl1, .inl (cJ, 32, .inr (.inl (vp_updL x.2.1 k (p_unzig (p_nv b x.1).1))))), (hi1, .inl (cI, 128, .inl (upd y.2 (k * 4 + i) (nI (p_nbV b y.1))))), (hs1, .inl (cI, 128, .inl x.2.2.2))]) hx hb hK hP hD hS 5 0 rfl rfl (by omega) (by decide) d_Scan_lookAtBlock_46 rfl (fun H locs hP hD hS => ?_)
          refine lv_iinc (v := nI (i + 1)) (lv' := [(3, .int (nI (i + 1))), (0, .ref h0), (1, .ref f0), (2, .int (nI k))]) hx hb d_Scan_lookAtBlock_47 hl (k := 3) rfl (zinc i 1) (by decide) rfl (fun ls hl => ?_)
          refine lv_goto (tgt := 15) hx hb d_Scan_lookAtBlock_50 (by decide) ?_
          exact ih15 (i + 1) (p_nwS b y.1 (p_lo to k i), upd y.2 (k * 4 + i) (nI (p_nbV b y.1))) (by omega) (p_ok_nw hy) (by have h8 := p_nbV_le (z := y.1) hu; intro q hq; by_cases e : q = i; exact (by rw [e]; exact p_g8_new (by omega)); exact p_g8_old (by omega) (hG q (by omega))) (by rw [show 4 - i = (4 - (i + 1)) + 1 by omega, p_lw, if_pos (of_decide_eq_true c_24)] at hR; exact hR) (by omega) _ _ hP hD hS ls (lv_sub hl [1, 2, 3, 0] rfl)
  exact hlp15 _ 0 ((p_nv b x.1).2, x.2.2.1) (by decide) h1 (fun q hq => absurd hq (Nat.not_lt_zero q)) rfl (Nat.lt_succ_self _) _ _ hP hD hS ls (lv_sub hl [1, 2, 3, 0] rfl)

set_option maxHeartbeats 4000000 in
set_option maxRecDepth 100000 in
theorem c_Scan_lookThrough (l : Launch) (D : va_G) (cI cJ : ClassId) (h0 : Nat) (bo : Nat) (to : Nat) (fi : Int64) (hw : Nat) (b : BB) (f0 : Nat) (hl1 : Nat) (hi1 : Nat) (hs1 : Nat) (bc : Nat) (z : SS) (x : (Nat → Int64) × (Nat → Int32) × (Nat → Int32)) (hu : b.2 ≤ 20000) : Ct l D (zT cI cJ) y_Scan_lookThrough b_Scan_lookThrough 3 none 6 140 0 0 [.ref h0, .ref f0] [(h0, .inr (2, [.ref bo, .int (nI z.1), .int (nI z.2.1), .int z.2.2, .int (nI to), .long fi])), (bo, .inr (0, [.ref hw, .int (nI b.2)])), (hw, .inl (cJ, 2500, .inr (.inl b.1))), (f0, .inr (1, [.int (nI bc), .ref hl1, .ref hi1, .ref hs1])), (hl1, .inl (cJ, 32, .inr (.inl x.1))), (hi1, .inl (cI, 128, .inl x.2.1)), (hs1, .inl (cI, 128, .inl x.2.2))] (zEq none [(h0, .inr (2, [.ref bo, .int (nI ((p_end b (p_look b x).1).1)), .int (nI ((p_end b (p_look b x).1).2.1)), .int ((p_end b (p_look b x).1).2.2), .int (nI ((p_lh b p_z0).2.1)), .long ((p_lh b p_z0).2.2)])), (bo, .inr (0, [.ref hw, .int (nI b.2)])), (hw, .inl (cJ, 2500, .inr (.inl b.1))), (f0, .inr (1, [.int (nI (p_bf (p_lh b p_z0).2.1)), .ref hl1, .ref hi1, .ref hs1])), (hl1, .inl (cJ, 32, .inr (.inl ((p_look b x).2.1)))), (hi1, .inl (cI, 128, .inl ((p_look b x).2.2.1))), (hs1, .inl (cI, 128, .inl ((p_look b x).2.2.2)))]) := by
  refine Ct.ofW (by decide) (Nat.le_of_ble_eq_true rfl) ?_
  intro p e s m below meth c A ls C0 hP hD hS hl
  obtain ⟨hx, hb, hml, hown, hts, hK, hN, hr, hlocks, hA, hnm⟩ := C0
  have hl : lv_has ls 3 [(0, .ref h0), (1, .ref f0)] := hl
  have hown : s.vm.findClass R_Scan = some m.cls := hown
  have h1 := p_ok_lh (p_ok_z0 b)
  have h2 := p_lh_to (b := b) (z := p_z0)
  have h3 := p_bf_le h2
  refine lv_aload_n hx hb d_Scan_lookThrough_0 rfl (lv_at hl 0 rfl) ?_
  refine lv_iconst (v := nI 0) hx hb d_Scan_lookThrough_1 (by decide +kernel) ?_
  refine p_Scan_15 (w2 := [(h0, .inr (2, [.ref bo, .int (nI 0), .int (nI z.2.1), .int z.2.2, .int (nI to), .long fi])), (bo, .inr (0, [.ref hw, .int (nI b.2)])), (hw, .inl (cJ, 2500, .inr (.inl b.1))), (f0, .inr (1, [.int (nI bc), .ref hl1, .ref hi1, .ref hs1])), (hl1, .inl (cJ, 32, .inr (.inl x.1))), (hi1, .inl (cI, 128, .inl x.2.1)), (hs1, .inl (cI, 128, .inl x.2.2))]) hx hb hts hown hK hP hD hS 0 rfl (Nat.le_of_ble_eq_true rfl) rfl d_Scan_lookThrough_2 (fun H locs hP hD hS => ?_)
  refine lv_aload_n hx hb d_Scan_lookThrough_5 rfl (lv_at hl 0 rfl) ?_
  refine lv_iconst (v := nI 0) hx hb d_Scan_lookThrough_6 (by decide +kernel) ?_
  refine p_Scan_19 (w2 := [(h0, .inr (2, [.ref bo, .int (nI 0), .int (nI 0), .int z.2.2, .int (nI to), .long fi])), (bo, .inr (0, [.ref hw, .int (nI b.2)])), (hw, .inl (cJ, 2500, .inr (.inl b.1))), (f0, .inr (1, [.int (nI bc), .ref hl1, .ref hi1, .ref hs1])), (hl1, .inl (cJ, 32, .inr (.inl x.1))), (hi1, .inl (cI, 128, .inl x.2.1)), (hs1, .inl (cI, 128, .inl x.2.2))]) hx hb hts hown hK hP hD hS 0 rfl (Nat.le_of_ble_eq_true rfl) rfl d_Scan_lookThrough_7 (fun H locs hP hD hS => ?_)
  refine lv_aload_n hx hb d_Scan_lookThrough_10 rfl (lv_at hl 0 rfl) ?_
  refine lv_iconst (v := (-1)) hx hb d_Scan_lookThrough_11 (by decide +kernel) ?_
  refine p_Scan_22 (w2 := [(h0, .inr (2, [.ref bo, .int (nI 0), .int (nI 0), .int (-1), .int (nI to), .long fi])), (bo, .inr (0, [.ref hw, .int (nI b.2)])), (hw, .inl (cJ, 2500, .inr (.inl b.1))), (f0, .inr (1, [.int (nI bc), .ref hl1, .ref hi1, .ref hs1])), (hl1, .inl (cJ, 32, .inr (.inl x.1))), (hi1, .inl (cI, 128, .inl x.2.1)), (hs1, .inl (cI, 128, .inl x.2.2))]) hx hb hts hown hK hP hD hS 0 rfl (Nat.le_of_ble_eq_true rfl) rfl d_Scan_lookThrough_12 (fun H locs hP hD hS => ?_)
  refine lv_aload_n hx hb d_Scan_lookThrough_15 rfl (lv_at hl 0 rfl) ?_
  refine z_callEv (wr := [(f0, .inr (1, [.int (nI bc), .ref hl1, .ref hi1, .ref hs1])), (hl1, .inl (cJ, 32, .inr (.inl x.1))), (hi1, .inl (cI, 128, .inl x.2.1)), (hs1, .inl (cI, 128, .inl x.2.2))]) (w2 := [(h0, .inr (2, [.ref bo, .int (nI ((p_lh b p_z0).1.1)), .int (nI ((p_lh b p_z0).1.2.1)), .int ((p_lh b p_z0).1.2.2), .int (nI ((p_lh b p_z0).2.1)), .long ((p_lh b p_z0).2.2)])), (bo, .inr (0, [.ref hw, .int (nI b.2)])), (hw, .inl (cJ, 2500, .inr (.inl b.1))), (f0, .inr (1, [.int (nI bc), .ref hl1, .ref hi1, .ref hs1])), (hl1, .inl (cJ, 32, .inr (.inl x.1))), (hi1, .inl (cI, 128, .inl x.2.1)), (hs1, .inl (cI, 128, .inl x.2.2))]) (z_runV (rest := []) hx hb hml hown hts hK hN (c_Scan_lookAtHead l D cI cJ h0 bo p_z0 to fi hw b (by (try dsimp only); omega) (p_ok_z0 b)) kk_Scan_32 (zP.cut hP [0, 1, 2] rfl) (hD.sub [0, 1, 2] (by decide) rfl) 0 rfl rfl rfl hl.1 rfl (Nat.le_of_ble_eq_true rfl) d_Scan_lookThrough_16 (by decide) (by decide)) hP hD hS hA [0, 1, 2] [3, 4, 5, 6] [4, 5, 6, 0, 1, 2, 3] rfl rfl (by decide) (by decide) (by decide) rfl (fun H locs hP hD hS => ?_)
  refine lv_aload_n hx hb d_Scan_lookThrough_19 rfl (lv_at hl 1 rfl) ?_
  refine lv_aload_n hx hb d_Scan_lookThrough_20 rfl (lv_at hl 0 rfl) ?_
  refine g_Scan_25 hx hb hts hown hK hP 0 rfl rfl d_Scan_lookThrough_21 ?_
  refine z_callEi (wr := [(h0, .inr (2, [.ref bo, .int (nI ((p_lh b p_z0).1.1)), .int (nI ((p_lh b p_z0).1.2.1)), .int ((p_lh b p_z0).1.2.2), .int (nI ((p_lh b p_z0).2.1)), .long ((p_lh b p_z0).2.2)])), (bo, .inr (0, [.ref hw, .int (nI b.2)])), (hw, .inl (cJ, 2500, .inr (.inl b.1))), (f0, .inr (1, [.int (nI bc), .ref hl1, .ref hi1, .ref hs1])), (hl1, .inl (cJ, 32, .inr (.inl x.1))), (hi1, .inl (cI, 128, .inl x.2.1)), (hs1, .inl (cI, 128, .inl x.2.2))]) (w2 := [(h0, .inr (2, [.ref bo, .int (nI ((p_lh b p_z0).1.1)), .int (nI ((p_lh b p_z0).1.2.1)), .int ((p_lh b p_z0).1.2.2), .int (nI ((p_lh b p_z0).2.1)), .long ((p_lh b p_z0).2.2)])), (bo, .inr (0, [.ref hw, .int (nI b.2)])), (hw, .inl (cJ, 2500, .inr (.inl b.1))), (f0, .inr (1, [.int (nI bc), .ref hl1, .ref hi1, .ref hs1])), (hl1, .inl (cJ, 32, .inr (.inl x.1))), (hi1, .inl (cI, 128, .inl x.2.1)), (hs1, .inl (cI, 128, .inl x.2.2))]) (z_runSN (rest := [.ref f0]) hx hb hml hown hts hK hN (c_DeltaRows_blocksFor l D cI cJ ((p_lh b p_z0).2.1) h2) kk_Scan_35 (zP.cut hP [] rfl) (hD.sub [] (by decide) rfl) rfl hl.1 rfl (Nat.le_of_ble_eq_true rfl) d_Scan_lookThrough_24 (by decide) (by decide)) hP hD hS hA [] [0, 1, 2, 3, 4, 5, 6] [0, 1, 2, 3, 4, 5, 6] rfl rfl (by decide) (by decide) (by decide) rfl (fun H locs hP hD hS => ?_)
  refine p_Scan_39 (w2 := [(h0, .inr (2, [.ref bo, .int (nI ((p_lh b p_z0).1.1)), .int (nI ((p_lh b p_z0).1.2.1)), .int ((p_lh b p_z0).1.2.2), .int (nI ((p_lh b p_z0).2.1)), .long ((p_lh b p_z0).2.2)])), (bo, .inr (0, [.ref hw, .int (nI b.2)])), (hw, .inl (cJ, 2500, .inr (.inl b.1))), (f0, .inr (1, [.int (nI (p_bf ((p_lh b p_z0).2.1))), .ref hl1, .ref hi1, .ref hs1])), (hl1, .inl (cJ, 32, .inr (.inl x.1))), (hi1, .inl (cI, 128, .inl x.2.1)), (hs1, .inl (cI, 128, .inl x.2.2))]) hx hb hts hown hK hP hD hS 3 rfl (Nat.le_of_ble_eq_true rfl) rfl d_Scan_lookThrough_27 (fun H locs hP hD hS => ?_)
  have hj59 : (p_ok b (p_look b x).1) → ∀ (H : Heap) (locs : List Loc), va_P D classes [(h0, .inr (2, [.ref bo, .int (nI ((p_look b x).1.1)), .int (nI ((p_look b x).1.2.1)), .int ((p_look b x).1.2.2), .int (nI ((p_lh b p_z0).2.1)), .long ((p_lh b p_z0).2.2)])), (bo, .inr (0, [.ref hw, .int (nI b.2)])), (hw, .inl (cJ, 2500, .inr (.inl b.1))), (f0, .inr (1, [.int (nI (p_bf (p_lh b p_z0).2.1)), .ref hl1, .ref hi1, .ref hs1])), (hl1, .inl (cJ, 32, .inr (.inl ((p_look b x).2.1)))), (hi1, .inl (cI, 128, .inl ((p_look b x).2.2.1))), (hs1, .inl (cI, 128, .inl ((p_look b x).2.2.2)))] H → va_D A [(h0, .inr (2, [.ref bo, .int (nI ((p_look b x).1.1)), .int (nI ((p_look b x).1.2.1)), .int ((p_look b x).1.2.2), .int (nI ((p_lh b p_z0).2.1)), .long ((p_lh b p_z0).2.2)])), (bo, .inr (0, [.ref hw, .int (nI b.2)])), (hw, .inl (cJ, 2500, .inr (.inl b.1))), (f0, .inr (1, [.int (nI (p_bf (p_lh b p_z0).2.1)), .ref hl1, .ref hi1, .ref hs1])), (hl1, .inl (cJ, 32, .inr (.inl ((p_look b x).2.1)))), (hi1, .inl (cI, 128, .inl ((p_look b x).2.2.1))), (hs1, .inl (cI, 128, .inl ((p_look b x).2.2.2)))] → va_S A s.heap H locs → ∀ (ls : Array Slot), lv_has ls 3 [(0, .ref h0), (1, .ref f0)] → W p l e { frames := 6, cells := 0, slots := 0, locals := 140 } s m ([.ref h0, .ref f0] : List Value).toArray below meth c H locs 0 0 (MQ below (zQ D (zEq none [(h0, .inr (2, [.ref bo, .int (nI ((p_end b (p_look b x).1).1)), .int (nI ((p_end b (p_look b x).1).2.1)), .int ((p_end b (p_look b x).1).2.2), .int (nI ((p_lh b p_z0).2.1)), .long ((p_lh b p_z0).2.2)])), (bo, .inr (0, [.ref hw, .int (nI b.2)])), (hw, .inl (cJ, 2500, .inr (.inl b.1))), (f0, .inr (1, [.int (nI (p_bf (p_lh b p_z0).2.1)), .ref hl1, .ref hi1, .ref hs1])), (hl1, .inl (cJ, 32, .inr (.inl ((p_look b x).2.1)))), (hi1, .inl (cI, 128, .inl ((p_look b x).2.2.1))), (hs1, .inl (cI, 128, .inl ((p_look b x).2.2.2)))]) A) ([.ref h0, .ref f0] : List Value).toArray s 0 0 A) (F0 m 59 ls []) := by
    intro  hF H locs hP hD hS ls hl
    refine lv_aload_n hx hb d_Scan_lookThrough_59 rfl (lv_at hl 0 rfl) ?_
    refine z_callEi (wr := [(bo, .inr (0, [.ref hw, .int (nI b.2)])), (hw, .inl (cJ, 2500, .inr (.inl b.1))), (f0, .inr (1, [.int (nI (p_bf (p_lh b p_z0).2.1)), .ref hl1, .ref hi1, .ref hs1])), (hl1, .inl (cJ, 32, .inr (.inl ((p_look b x).2.1)))), (hi1, .inl (cI, 128, .inl ((p_look b x).2.2.1))), (hs1, .inl (cI, 128, .inl ((p_look b x).2.2.2)))]) (w2 := [(h0, .inr (2, [.ref bo, .int (nI ((p_look b x).1).1), .int (nI ((p_look b x).1).2.1), .int (((p_look b x).1).2.2), .int (nI ((p_lh b p_z0).2.1)), .long ((p_lh b p_z0).2.2)])), (bo, .inr (0, [.ref hw, .int (nI b.2)])), (hw, .inl (cJ, 2500, .inr (.inl b.1))), (f0, .inr (1, [.int (nI (p_bf (p_lh b p_z0).2.1)), .ref hl1, .ref hi1, .ref hs1])), (hl1, .inl (cJ, 32, .inr (.inl ((p_look b x).2.1)))), (hi1, .inl (cI, 128, .inl ((p_look b x).2.2.1))), (hs1, .inl (cI, 128, .inl ((p_look b x).2.2.2)))]) (z_runV (rest := []) hx hb hml hown hts hK hN (c_Scan_isFaultless l D cI cJ h0 bo ((p_look b x).1) ((p_lh b p_z0).2.1) ((p_lh b p_z0).2.2) hF.2) kk_Scan_44 (zP.cut hP [0] rfl) (hD.sub [0] (by decide) rfl) 0 rfl rfl rfl hl.1 rfl (Nat.le_of_ble_eq_true rfl) d_Scan_lookThrough_60 (by decide) (by decide)) hP hD hS hA [0] [1, 2, 3, 4, 5, 6] [6, 0, 1, 2, 3, 4, 5] rfl rfl (by decide) (by decide) (by decide) rfl (fun H locs hP hD hS => ?_)
    refine zb_eq (tgt := 90) hx hb d_Scan_lookThrough_63 (by decide) (fun c_63 => ?_) (fun c_63 => ?_)
    · skip
      exact z_vret hx hb hr hlocks hS hP hD ⟨rfl, by unfold p_end; first | (rw [if_pos ⟨c_63, c_77⟩] <;> rfl) | (rw [if_neg (fun q => by omega)]) | (rw [if_neg (fun q => absurd q.1 (of_decide_eq_false c_63))])⟩ d_Scan_lookThrough_90
    · skip
      have c_63 := of_decide_eq_true c_63
      have hF1 := hF.1
      refine lv_aload_n hx hb d_Scan_lookThrough_66 rfl (lv_at hl 0 rfl) ?_
      refine g_Scan_15 hx hb hts hown hK hP 0 rfl rfl d_Scan_lookThrough_67 ?_
      refine lv_aload_n hx hb d_Scan_lookThrough_70 rfl (lv_at hl 0 rfl) ?_
      refine g_Scan_9 hx hb hts hown hK hP 0 rfl rfl d_Scan_lookThrough_71 ?_
      refine g_Scan_52 hx hb hts hown hK hP 1 rfl rfl d_Scan_lookThrough_74 ?_
      refine zn_ge (a := ((p_look b x).1).1) (b := b.2) (by omega) (by omega) hx hb d_Scan_lookThrough_77 (tgt := 90) (by decide) (fun c_77 => ?_) (fun c_77 => ?_)
      · skip
        exact z_vret hx hb hr hlocks hS hP hD ⟨rfl, by unfold p_end; first | (rw [if_pos ⟨c_63, c_77⟩] <;> rfl) | (rw [if_neg (fun q => by omega)]) | (rw [if_neg (fun q => absurd q.1 (of_decide_eq_false c_63))])⟩ d_Scan_lookThrough_90
      · skip
        refine lv_aload_n hx hb d_Scan_lookThrough_80 rfl (lv_at hl 0 rfl) ?_
        refine lv_bipush (v := nI 6) hx hb d_Scan_lookThrough_81 (by decide +kernel) ?_
        refine lv_aload_n hx hb d_Scan_lookThrough_83 rfl (lv_at hl 0 rfl) ?_
        refine g_Scan_15 hx hb hts hown hK hP 0 rfl rfl d_Scan_lookThrough_84 ?_
        refine z_callEv (wr := [(bo, .inr (0, [.ref hw, .int (nI b.2)])), (hw, .inl (cJ, 2500, .inr (.inl b.1))), (f0, .inr (1, [.int (nI (p_bf (p_lh b p_z0).2.1)), .ref hl1, .ref hi1, .ref hs1])), (hl1, .inl (cJ, 32, .inr (.inl ((p_look b x).2.1)))), (hi1, .inl (cI, 128, .inl ((p_look b x).2.2.1))), (hs1, .inl (cI, 128, .inl ((p_look b x).2.2.2)))]) (w2 := [(h0, .inr (2, [.ref bo, .int (nI ((((p_look b x).1).1, 6, (nI ((p_look b x).1).1)).1)), .int (nI ((((p_look b x).1).1, 6, (nI ((p_look b x).1).1)).2.1)), .int ((((p_look b x).1).1, 6, (nI ((p_look b x).1).1)).2.2), .int (nI ((p_lh b p_z0).2.1)), .long ((p_lh b p_z0).2.2)])), (bo, .inr (0, [.ref hw, .int (nI b.2)])), (hw, .inl (cJ, 2500, .inr (.inl b.1))), (f0, .inr (1, [.int (nI (p_bf (p_lh b p_z0).2.1)), .ref hl1, .ref hi1, .ref hs1])), (hl1, .inl (cJ, 32, .inr (.inl ((p_look b x).2.1)))), (hi1, .inl (cI, 128, .inl ((p_look b x).2.2.1))), (hs1, .inl (cI, 128, .inl ((p_look b x).2.2.2)))]) (z_runV (rest := []) hx hb hml hown hts hK hN (c_Scan_refuse l D cI cJ h0 bo ((p_look b x).1) ((p_lh b p_z0).2.1) ((p_lh b p_z0).2.2) 6 (nI ((p_look b x).1).1) ) kk_Scan_57 (zP.cut hP [0] rfl) (hD.sub [0] (by decide) rfl) 0 rfl rfl rfl hl.1 rfl (Nat.le_of_ble_eq_true rfl) d_Scan_lookThrough_87 (by decide) (by decide)) hP hD hS hA [0] [1, 2, 3, 4, 5, 6] [6, 0, 1, 2, 3, 4, 5] rfl rfl (by decide) (by decide) (by decide) rfl (fun H locs hP hD hS => ?_)
        exact z_vret hx hb hr hlocks hS hP hD ⟨rfl, by unfold p_end; first | (rw [if_pos ⟨c_63, c_77⟩] <;> rfl) | (rw [if_neg (fun q => by omega)]) | (rw [if_neg (fun q => absurd q.1 (of_decide_eq_false c_63))])⟩ d_Scan_lookThrough_90
  refine lv_iconst (v := nI 0) hx hb d_Scan_lookThrough_30 (by decide +kernel) ?_
  refine lv_istore_n (lv' := [(2, .int (nI 0)), (0, .ref h0), (1, .ref f0)]) hx hb d_Scan_lookThrough_31 rfl hl (by decide) rfl (fun ls hl => ?_)
  have hlp32 : ∀ (n : Nat) (k : Nat) (y : LL), (k ≤ (p_bf (p_lh b p_z0).2.1)) → (p_ok b y.1) → (p_lbs b (p_lh b p_z0).2.1 ((p_bf (p_lh b p_z0).2.1) - k) k y = (p_look b x)) → (p_bf (p_lh b p_z0).2.1) - k < n → ∀ (H : Heap) (locs : List Loc), va_P D classes [(h0, .inr (2, [.ref bo, .int (nI y.1.1), .int (nI y.1.2.1), .int y.1.2.2, .int (nI ((p_lh b p_z0).2.1)), .long ((p_lh b p_z0).2.2)])), (bo, .inr (0, [.ref hw, .int (nI b.2)])), (hw, .inl (cJ, 2500, .inr (.inl b.1))), (f0, .inr (1, [.int (nI (p_bf (p_lh b p_z0).2.1)), .ref hl1, .ref hi1, .ref hs1])), (hl1, .inl (cJ, 32, .inr (.inl y.2.1))), (hi1, .inl (cI, 128, .inl y.2.2.1)), (hs1, .inl (cI, 128, .inl y.2.2.2))] H → va_D A [(h0, .inr (2, [.ref bo, .int (nI y.1.1), .int (nI y.1.2.1), .int y.1.2.2, .int (nI ((p_lh b p_z0).2.1)), .long ((p_lh b p_z0).2.2)])), (bo, .inr (0, [.ref hw, .int (nI b.2)])), (hw, .inl (cJ, 2500, .inr (.inl b.1))), (f0, .inr (1, [.int (nI (p_bf (p_lh b p_z0).2.1)), .ref hl1, .ref hi1, .ref hs1])), (hl1, .inl (cJ, 32, .inr (.inl y.2.1))), (hi1, .inl (cI, 128, .inl y.2.2.1)), (hs1, .inl (cI, 128, .inl y.2.2.2))] → va_S A s.heap H locs → ∀ (ls : Array Slot), lv_has ls 3 [(0, .ref h0), (1, .ref f0), (2, .int (nI k))] → W p l e { frames := 6, cells := 0, slots := 0, locals := 140 } s m ([.ref h0, .ref f0] : List Value).toArray below meth c H locs 0 0 (MQ below (zQ D (zEq none [(h0, .inr (2, [.ref bo, .int (nI ((p_end b (p_look b x).1).1)), .int (nI ((p_end b (p_look b x).1).2.1)), .int ((p_end b (p_look b x).1).2.2), .int (nI ((p_lh b p_z0).2.1)), .long ((p_lh b p_z0).2.2)])), (bo, .inr (0, [.ref hw, .int (nI b.2)])), (hw, .inl (cJ, 2500, .inr (.inl b.1))), (f0, .inr (1, [.int (nI (p_bf (p_lh b p_z0).2.1)), .ref hl1, .ref hi1, .ref hs1])), (hl1, .inl (cJ, 32, .inr (.inl ((p_look b x).2.1)))), (hi1, .inl (cI, 128, .inl ((p_look b x).2.2.1))), (hs1, .inl (cI, 128, .inl ((p_look b x).2.2.2)))]) A) ([.ref h0, .ref f0] : List Value).toArray s 0 0 A) (F0 m 32 ls []) := by
    intro n
    induction n with
    | zero => intro k y hk hy hR hmu; exact absurd hmu (Nat.not_lt_zero _)
    | succ n ih =>
      intro k y hk hy hR hmu H locs hP hD hS ls hl
      have ih32 := ih
      refine lv_iload_n hx hb d_Scan_lookThrough_32 rfl (lv_at hl 2 rfl) ?_
      refine lv_aload_n hx hb d_Scan_lookThrough_33 rfl (lv_at hl 1 rfl) ?_
      refine g_Scan_39 hx hb hts hown hK hP 3 rfl rfl d_Scan_lookThrough_34 ?_
      refine zn_ge (a := k) (b := (p_bf (p_lh b p_z0).2.1)) (by omega) (by omega) hx hb d_Scan_lookThrough_37 (tgt := 59) (by decide) (fun c_37 => ?_) (fun c_37 => ?_)
      · skip
        have hX : y = (p_look b x) := by rw [← hR]; first | (rw [show (p_bf (p_lh b p_z0).2.1) - k = 0 by omega]; rfl) | (rw [show (p_bf (p_lh b p_z0).2.1) - k = ((p_bf (p_lh b p_z0).2.1) - (k + 1)) + 1 by omega, p_lbs, if_neg (of_decide_eq_false c_44)])
        subst hX
        exact hj59  hy _ _ hP hD hS ls (lv_sub hl [0, 1] rfl)
      · skip
        refine lv_aload_n hx hb d_Scan_lookThrough_40 rfl (lv_at hl 0 rfl) ?_
        refine z_callEi (wr := [(bo, .inr (0, [.ref hw, .int (nI b.2)])), (hw, .inl (cJ, 2500, .inr (.inl b.1))), (f0, .inr (1, [.int (nI (p_bf (p_lh b p_z0).2.1)), .ref hl1, .ref hi1, .ref hs1])), (hl1, .inl (cJ, 32, .inr (.inl y.2.1))), (hi1, .inl (cI, 128, .inl y.2.2.1)), (hs1, .inl (cI, 128, .inl y.2.2.2))]) (w2 := [(h0, .inr (2, [.ref bo, .int (nI y.1.1), .int (nI y.1.2.1), .int y.1.2.2, .int (nI ((p_lh b p_z0).2.1)), .long ((p_lh b p_z0).2.2)])), (bo, .inr (0, [.ref hw, .int (nI b.2)])), (hw, .inl (cJ, 2500, .inr (.inl b.1))), (f0, .inr (1, [.int (nI (p_bf (p_lh b p_z0).2.1)), .ref hl1, .ref hi1, .ref hs1])), (hl1, .inl (cJ, 32, .inr (.inl y.2.1))), (hi1, .inl (cI, 128, .inl y.2.2.1)), (hs1, .inl (cI, 128, .inl y.2.2.2))]) (z_runV (rest := []) hx hb hml hown hts hK hN (c_Scan_isFaultless l D cI cJ h0 bo y.1 ((p_lh b p_z0).2.1) ((p_lh b p_z0).2.2) hy.2) kk_Scan_44 (zP.cut hP [0] rfl) (hD.sub [0] (by decide) rfl) 0 rfl rfl rfl hl.1 rfl (Nat.le_of_ble_eq_true rfl) d_Scan_lookThrough_41 (by decide) (by decide)) hP hD hS hA [0] [1, 2, 3, 4, 5, 6] [6, 0, 1, 2, 3, 4, 5] rfl rfl (by decide) (by decide) (by decide) rfl (fun H locs hP hD hS => ?_)
        refine zb_eq (tgt := 59) hx hb d_Scan_lookThrough_44 (by decide) (fun c_44 => ?_) (fun c_44 => ?_)
        · skip
          have hX : y = (p_look b x) := by rw [← hR]; first | (rw [show (p_bf (p_lh b p_z0).2.1) - k = 0 by omega]; rfl) | (rw [show (p_bf (p_lh b p_z0).2.1) - k = ((p_bf (p_lh b p_z0).2.1) - (k + 1)) + 1 by omega, p_lbs, if_neg (of_decide_eq_false c_44)])
          subst hX
          exact hj59  hy _ _ hP hD hS ls (lv_sub hl [0, 1] rfl)
        · skip
          refine lv_aload_n hx hb d_Scan_lookThrough_47 rfl (lv_at hl 0 rfl) ?_
          refine lv_aload_n hx hb d_Scan_lookThrough_48 rfl (lv_at hl 1 rfl) ?_
          refine lv_iload_n hx hb d_Scan_lookThrough_49 rfl (lv_at hl 2 rfl) ?_
          refine z_callEv (wr := []) (w2 := [(h0, .inr (2, [.ref bo, .int (nI ((p_lb b ((p_lh b p_z0).2.1) k y).1.1)), .int (nI ((p_lb b ((p_lh b p_z0).2.1) k y).1.2.1)), .int ((p_lb b ((p_lh b p_z0).2.1) k y).1.2.2), .int (nI ((p_lh b p_z0).2.1)), .long ((p_lh b p_z0).2.2)])), (bo, .inr (0, [.ref hw, .int (nI b.2)])), (hw, .inl (cJ, 2500, .inr (.inl b.1))), (f0, .inr (1, [.int (nI (p_bf (p_lh b p_z0).2.1)), .ref hl1, .ref hi1, .ref hs1])), (hl1, .inl (cJ, 32, .inr (.inl ((p_lb b ((p_lh b p_z0).2.1) k y).2.1)))), (hi1, .inl (cI, 128, .inl ((p_lb b ((p_lh b p_z0).2.1) k y).2.2.1))), (hs1, .inl (cI, 128, .inl ((p_lb b ((p_lh b p_z0).2.1) k y).2.2.2)))]) (z_runV (rest := []) hx hb hml hown hts hK hN (c_Scan_lookAtBlock l D cI cJ h0 bo ((p_lh b p_z0).2.1) ((p_lh b p_z0).2.2) hw b f0 hl1 hi1 hs1 (p_bf (p_lh b p_z0).2.1) y k (by (try dsimp only); omega) hy h2 (by (try dsimp only); omega)) kk_Scan_48 (zP.cut hP [0, 1, 2, 3, 4, 5, 6] rfl) (hD.sub [0, 1, 2, 3, 4, 5, 6] (by decide) rfl) 0 rfl rfl rfl hl.1 rfl (Nat.le_of_ble_eq_true rfl) d_Scan_lookThrough_50 (by decide) (by decide)) hP hD hS hA [0, 1, 2, 3, 4, 5, 6] [] [0, 1, 2, 3, 4, 5, 6] rfl rfl (by decide) (by decide) (by decide) rfl (fun H locs hP hD hS => ?_)
          refine lv_iinc (v := nI (k + 1)) (lv' := [(2, .int (nI (k + 1))), (0, .ref h0), (1, .ref f0)]) hx hb d_Scan_lookThrough_53 hl (k := 2) rfl (zinc k 1) (by decide) rfl (fun ls hl => ?_)
          refine lv_goto (tgt := 32) hx hb d_Scan_lookThrough_56 (by decide) ?_
          exact ih32 (k + 1) (p_lb b (p_lh b p_z0).2.1 k y) (by omega) (p_ok_lb hy) (by rw [show (p_bf (p_lh b p_z0).2.1) - k = ((p_bf (p_lh b p_z0).2.1) - (k + 1)) + 1 by omega, p_lbs, if_pos (of_decide_eq_true c_44)] at hR; exact hR) (by omega) _ _ hP hD hS ls (lv_sub hl [1, 2, 0] rfl)
  exact hlp32 _ 0 ((p_lh b p_z0).1, x) (Nat.zero_le _) h1 rfl (Nat.lt_succ_self _) _ _ hP hD hS ls (lv_sub hl [1, 2, 0] rfl)

set_option maxHeartbeats 4000000 in
set_option maxRecDepth 100000 in
theorem c_DeltaRows_takePart (l : Launch) (D : va_G) (cI cJ : ClassId) (o : Nat) (ro : Nat) (bo : Nat) (so : Nat) (la : Nat) (lb : Nat) (rc : Nat) (rq : Nat → Int64) (hl1 : Nat) (hi1 : Nat) (hs1 : Nat) (hw : Nat) (b : BB) (bc : Nat) (le : Nat → Int64) (wi : Nat → Int32) (st : Nat → Int32) (lv : Int64) (w : Nat) (s0 : Nat) (k : Nat) (pp : Nat) (hrc : rc ≤ 2000) (hk : k < 32) (hp : pp < 4) (hle : le k = lv) (hwi : wi (k * 4 + pp) = nI w) (hst : st (k * 4 + pp) = nI s0) (hw1 : w ≤ 64) (hs0 : s0 ≤ 20000) : Ct l D (zT cI cJ) y_DeltaRows_takePart b_DeltaRows_takePart 9 none 2 48 0 0 [.ref o, .int (nI k), .int (nI pp)] [(o, .inr (3, [.ref ro, .int (nI rc), .ref bo, .ref so, .ref la, .ref lb])), (ro, .inl (cJ, 2000, .inr (.inl rq))), (bo, .inr (0, [.ref hw, .int (nI b.2)])), (hw, .inl (cJ, 2500, .inr (.inl b.1))), (la, .inr (1, [.int (nI bc), .ref hl1, .ref hi1, .ref hs1])), (hl1, .inl (cJ, 32, .inr (.inl le))), (hi1, .inl (cI, 128, .inl wi)), (hs1, .inl (cI, 128, .inl st))] (zEq none [(o, .inr (3, [.ref ro, .int (nI rc), .ref bo, .ref so, .ref la, .ref lb])), (ro, .inl (cJ, 2000, .inr (.inl (p_tp b.1 rc lv w s0 k pp rq)))), (bo, .inr (0, [.ref hw, .int (nI b.2)])), (hw, .inl (cJ, 2500, .inr (.inl b.1))), (la, .inr (1, [.int (nI bc), .ref hl1, .ref hi1, .ref hs1])), (hl1, .inl (cJ, 32, .inr (.inl le))), (hi1, .inl (cI, 128, .inl wi)), (hs1, .inl (cI, 128, .inl st))]) := by
  refine Ct.ofW (by decide) (Nat.le_of_ble_eq_true rfl) ?_
  intro p e s m below meth c A ls C0 hP hD hS hl
  obtain ⟨hx, hb, hml, hown, hts, hK, hN, hr, hlocks, hA, hnm⟩ := C0
  have hl : lv_has ls 9 [(0, .ref o), (1, .int (nI k)), (2, .int (nI pp))] := hl
  have hown : s.vm.findClass R_DeltaRows = some m.cls := hown
  have e0 := p_pe_mono rc k pp
  have e2 := p_pe_to rc k pp
  have e5 := p_pe_to rc k (pp + 1)
  have e6 : p_pe k pp rc < p_pe k (pp + 1) rc → 1 ≤ p_pe k pp rc := by unfold p_pe; omega
  have e7 := p_lo_le rc k pp
  unfold p_lo at e7
  refine lv_aload_n hx hb d_DeltaRows_takePart_0 rfl (lv_at hl 0 rfl) ?_
  refine g_DeltaRows_36 hx hb hts hown hK hP 0 rfl rfl d_DeltaRows_takePart_1 ?_
  refine g_DeltaRows_98 hx hb hts hown hK hP 4 rfl rfl d_DeltaRows_takePart_4 ?_
  refine lv_iload_n hx hb d_DeltaRows_takePart_7 rfl (lv_at hl 1 rfl) ?_
  refine z_lald hx hb hK hP 5 1 rfl rfl (by omega) (by decide) d_DeltaRows_takePart_8 ?_
  refine z_l hle ?_
  refine lv_lstore_n (lv' := [(3, .long lv), (0, .ref o), (1, .int (nI k)), (2, .int (nI pp))]) hx hb d_DeltaRows_takePart_9 rfl hl (by decide) rfl (fun ls hl => ?_)
  refine lv_aload_n hx hb d_DeltaRows_takePart_10 rfl (lv_at hl 1 rfl) ?_
  refine g_DeltaRows_36 hx hb hts hown hK hP 0 rfl rfl d_DeltaRows_takePart_11 ?_
  refine g_DeltaRows_105 hx hb hts hown hK hP 4 rfl rfl d_DeltaRows_takePart_14 ?_
  refine lv_iload_n hx hb d_DeltaRows_takePart_17 rfl (lv_at hl 2 rfl) ?_
  refine lv_iconst (v := nI 4) hx hb d_DeltaRows_takePart_18 (by decide +kernel) ?_
  refine lv_imul hx hb d_DeltaRows_takePart_19 (z_i (pk_mul k 4) ?_)
  refine lv_iload_n hx hb d_DeltaRows_takePart_20 rfl (lv_at hl 3 rfl) ?_
  refine lv_iadd hx hb d_DeltaRows_takePart_21 (z_i (nI_add (k * 4) pp) ?_)
  refine z_iald hx hb hK hP 6 0 rfl rfl (by omega) (by decide) d_DeltaRows_takePart_22 ?_
  refine z_i hwi ?_
  refine lv_istore (lv' := [(5, .int (nI w)), (3, .long lv), (0, .ref o), (1, .int (nI k)), (2, .int (nI pp))]) hx hb d_DeltaRows_takePart_23 hl (by decide) rfl (fun ls hl => ?_)
  refine lv_aload_n hx hb d_DeltaRows_takePart_25 rfl (lv_at hl 2 rfl) ?_
  refine g_DeltaRows_36 hx hb hts hown hK hP 0 rfl rfl d_DeltaRows_takePart_26 ?_
  refine g_DeltaRows_109 hx hb hts hown hK hP 4 rfl rfl d_DeltaRows_takePart_29 ?_
  refine lv_iload_n hx hb d_DeltaRows_takePart_32 rfl (lv_at hl 3 rfl) ?_
  refine lv_iconst (v := nI 4) hx hb d_DeltaRows_takePart_33 (by decide +kernel) ?_
  refine lv_imul hx hb d_DeltaRows_takePart_34 (z_i (pk_mul k 4) ?_)
  refine lv_iload_n hx hb d_DeltaRows_takePart_35 rfl (lv_at hl 4 rfl) ?_
  refine lv_iadd hx hb d_DeltaRows_takePart_36 (z_i (nI_add (k * 4) pp) ?_)
  refine z_iald hx hb hK hP 7 0 rfl rfl (by omega) (by decide) d_DeltaRows_takePart_37 ?_
  refine z_i hst ?_
  refine lv_bipush (v := nI 8) hx hb d_DeltaRows_takePart_38 (by decide +kernel) ?_
  refine lv_imul hx hb d_DeltaRows_takePart_40 (z_i (pk_mul s0 8) ?_)
  refine lv_istore (lv' := [(6, .int (nI (s0 * 8))), (5, .int (nI w)), (3, .long lv), (0, .ref o), (1, .int (nI k)), (2, .int (nI pp))]) hx hb d_DeltaRows_takePart_41 hl (by decide) rfl (fun ls hl => ?_)
  refine lv_iload_n hx hb d_DeltaRows_takePart_43 rfl (lv_at hl 4 rfl) ?_
  refine lv_iload_n hx hb d_DeltaRows_takePart_44 rfl (lv_at hl 5 rfl) ?_
  refine lv_iconst (v := nI 1) hx hb d_DeltaRows_takePart_45 (by decide +kernel) ?_
  refine lv_iadd hx hb d_DeltaRows_takePart_46 (z_i (nI_add pp 1) ?_)
  refine lv_aload_n hx hb d_DeltaRows_takePart_47 rfl (lv_at hl 3 rfl) ?_
  refine g_DeltaRows_13 hx hb hts hown hK hP 0 rfl rfl d_DeltaRows_takePart_48 ?_
  refine z_callEi (wr := [(o, .inr (3, [.ref ro, .int (nI rc), .ref bo, .ref so, .ref la, .ref lb])), (ro, .inl (cJ, 2000, .inr (.inl rq))), (bo, .inr (0, [.ref hw, .int (nI b.2)])), (hw, .inl (cJ, 2500, .inr (.inl b.1))), (la, .inr (1, [.int (nI bc), .ref hl1, .ref hi1, .ref hs1])), (hl1, .inl (cJ, 32, .inr (.inl le))), (hi1, .inl (cI, 128, .inl wi)), (hs1, .inl (cI, 128, .inl st))]) (w2 := [(o, .inr (3, [.ref ro, .int (nI rc), .ref bo, .ref so, .ref la, .ref lb])), (ro, .inl (cJ, 2000, .inr (.inl rq))), (bo, .inr (0, [.ref hw, .int (nI b.2)])), (hw, .inl (cJ, 2500, .inr (.inl b.1))), (la, .inr (1, [.int (nI bc), .ref hl1, .ref hi1, .ref hs1])), (hl1, .inl (cJ, 32, .inr (.inl le))), (hi1, .inl (cI, 128, .inl wi)), (hs1, .inl (cI, 128, .inl st))]) (z_runS (rest := []) hx hb hml hown hts hK hN (c_DeltaRows_partEdge l D cI cJ k (pp + 1) rc (by (try dsimp only); omega) (by (try dsimp only); omega) (by (try dsimp only); omega)) kk_DeltaRows_123 (zP.cut hP [] rfl) (hD.sub [] (by decide) rfl) rfl hl.1 rfl (Nat.le_of_ble_eq_true rfl) d_DeltaRows_takePart_51 (by decide) (by decide)) hP hD hS hA [] [0, 1, 2, 3, 4, 5, 6, 7] [0, 1, 2, 3, 4, 5, 6, 7] rfl rfl (by decide) (by decide) (by decide) rfl (fun H locs hP hD hS => ?_)
  refine lv_istore (lv' := [(7, .int (nI (p_pe k (pp + 1) rc))), (6, .int (nI (s0 * 8))), (5, .int (nI w)), (3, .long lv), (0, .ref o), (1, .int (nI k)), (2, .int (nI pp))]) hx hb d_DeltaRows_takePart_54 hl (by decide) rfl (fun ls hl => ?_)
  refine lv_iload_n hx hb d_DeltaRows_takePart_56 rfl (lv_at hl 5 rfl) ?_
  refine lv_iload_n hx hb d_DeltaRows_takePart_57 rfl (lv_at hl 6 rfl) ?_
  refine lv_aload_n hx hb d_DeltaRows_takePart_58 rfl (lv_at hl 4 rfl) ?_
  refine g_DeltaRows_13 hx hb hts hown hK hP 0 rfl rfl d_DeltaRows_takePart_59 ?_
  refine z_callEi (wr := [(o, .inr (3, [.ref ro, .int (nI rc), .ref bo, .ref so, .ref la, .ref lb])), (ro, .inl (cJ, 2000, .inr (.inl rq))), (bo, .inr (0, [.ref hw, .int (nI b.2)])), (hw, .inl (cJ, 2500, .inr (.inl b.1))), (la, .inr (1, [.int (nI bc), .ref hl1, .ref hi1, .ref hs1])), (hl1, .inl (cJ, 32, .inr (.inl le))), (hi1, .inl (cI, 128, .inl wi)), (hs1, .inl (cI, 128, .inl st))]) (w2 := [(o, .inr (3, [.ref ro, .int (nI rc), .ref bo, .ref so, .ref la, .ref lb])), (ro, .inl (cJ, 2000, .inr (.inl rq))), (bo, .inr (0, [.ref hw, .int (nI b.2)])), (hw, .inl (cJ, 2500, .inr (.inl b.1))), (la, .inr (1, [.int (nI bc), .ref hl1, .ref hi1, .ref hs1])), (hl1, .inl (cJ, 32, .inr (.inl le))), (hi1, .inl (cI, 128, .inl wi)), (hs1, .inl (cI, 128, .inl st))]) (z_runS (rest := []) hx hb hml hown hts hK hN (c_DeltaRows_partEdge l D cI cJ k pp rc (by (try dsimp only); omega) (by (try dsimp only); omega) (by (try dsimp only); omega)) kk_DeltaRows_123 (zP.cut hP [] rfl) (hD.sub [] (by decide) rfl) rfl hl.1 rfl (Nat.le_of_ble_eq_true rfl) d_DeltaRows_takePart_62 (by decide) (by decide)) hP hD hS hA [] [0, 1, 2, 3, 4, 5, 6, 7] [0, 1, 2, 3, 4, 5, 6, 7] rfl rfl (by decide) (by decide) (by decide) rfl (fun H locs hP hD hS => ?_)
  refine lv_istore (lv' := [(8, .int (nI (p_pe k pp rc))), (7, .int (nI (p_pe k (pp + 1) rc))), (6, .int (nI (s0 * 8))), (5, .int (nI w)), (3, .long lv), (0, .ref o), (1, .int (nI k)), (2, .int (nI pp))]) hx hb d_DeltaRows_takePart_65 hl (by decide) rfl (fun ls hl => ?_)
  have hlp67 : ∀ (n : Nat) (i : Nat) (q : Nat) (rz : Nat → Int64), (p_pe k pp rc ≤ i ∧ i ≤ p_pe k (pp + 1) rc) → (q + (p_pe k (pp + 1) rc - i) * 64 ≤ s0 * 8 + 1024) → (p_tpl b.1 lv w (p_pe k (pp + 1) rc - i) i q rz = p_tp b.1 rc lv w s0 k pp rq) → p_pe k (pp + 1) rc - i < n → ∀ (H : Heap) (locs : List Loc), va_P D classes [(o, .inr (3, [.ref ro, .int (nI rc), .ref bo, .ref so, .ref la, .ref lb])), (ro, .inl (cJ, 2000, .inr (.inl rz))), (bo, .inr (0, [.ref hw, .int (nI b.2)])), (hw, .inl (cJ, 2500, .inr (.inl b.1))), (la, .inr (1, [.int (nI bc), .ref hl1, .ref hi1, .ref hs1])), (hl1, .inl (cJ, 32, .inr (.inl le))), (hi1, .inl (cI, 128, .inl wi)), (hs1, .inl (cI, 128, .inl st))] H → va_D A [(o, .inr (3, [.ref ro, .int (nI rc), .ref bo, .ref so, .ref la, .ref lb])), (ro, .inl (cJ, 2000, .inr (.inl rz))), (bo, .inr (0, [.ref hw, .int (nI b.2)])), (hw, .inl (cJ, 2500, .inr (.inl b.1))), (la, .inr (1, [.int (nI bc), .ref hl1, .ref hi1, .ref hs1])), (hl1, .inl (cJ, 32, .inr (.inl le))), (hi1, .inl (cI, 128, .inl wi)), (hs1, .inl (cI, 128, .inl st))] → va_S A s.heap H locs → ∀ (ls : Array Slot), lv_has ls 9 [(0, .ref o), (3, .long lv), (5, .int (nI w)), (6, .int (nI q)), (7, .int (nI (p_pe k (pp + 1) rc))), (8, .int (nI i))] → W p l e { frames := 2, cells := 0, slots := 0, locals := 48 } s m ([.ref o, .int (nI k), .int (nI pp)] : List Value).toArray below meth c H locs 0 0 (MQ below (zQ D (zEq none [(o, .inr (3, [.ref ro, .int (nI rc), .ref bo, .ref so, .ref la, .ref lb])), (ro, .inl (cJ, 2000, .inr (.inl (p_tp b.1 rc lv w s0 k pp rq)))), (bo, .inr (0, [.ref hw, .int (nI b.2)])), (hw, .inl (cJ, 2500, .inr (.inl b.1))), (la, .inr (1, [.int (nI bc), .ref hl1, .ref hi1, .ref hs1])), (hl1, .inl (cJ, 32, .inr (.inl le))), (hi1, .inl (cI, 128, .inl wi)), (hs1, .inl (cI, 128, .inl st))]) A) ([.ref o, .int (nI k), .int (nI pp)] : List Value).toArray s 0 0 A) (F0 m 67 ls []) := by
    intro n
    induction n with
    | zero => intro i q rz h1 hq hR hmu; exact absurd hmu (Nat.not_lt_zero _)
    | succ n ih =>
      intro i q rz h1 hq hR hmu H locs hP hD hS ls hl
      have ih67 := ih
      refine lv_iload hx hb d_DeltaRows_takePart_67 (lv_at hl 5 rfl) ?_
      refine lv_iload hx hb d_DeltaRows_takePart_69 (lv_at hl 4 rfl) ?_
      refine zn_ge (a := i) (b := p_pe k (pp + 1) rc) (by omega) (by omega) hx hb d_DeltaRows_takePart_71 (tgt := 117) (by decide) (fun c_71 => ?_) (fun c_71 => ?_)
      · skip
        exact z_vret hx hb hr hlocks hS hP hD ⟨rfl, by rw [← hR, show p_pe k (pp + 1) rc - i = 0 by omega]; rfl⟩ d_DeltaRows_takePart_117
      · skip
        refine lv_aload_n hx hb d_DeltaRows_takePart_74 rfl (lv_at hl 0 rfl) ?_
        refine g_DeltaRows_9 hx hb hts hown hK hP 0 rfl rfl d_DeltaRows_takePart_75 ?_
        refine lv_iload hx hb d_DeltaRows_takePart_78 (lv_at hl 5 rfl) ?_
        refine lv_aload_n hx hb d_DeltaRows_takePart_80 rfl (lv_at hl 0 rfl) ?_
        refine g_DeltaRows_9 hx hb hts hown hK hP 0 rfl rfl d_DeltaRows_takePart_81 ?_
        refine lv_iload hx hb d_DeltaRows_takePart_84 (lv_at hl 5 rfl) ?_
        refine lv_iconst (v := nI 1) hx hb d_DeltaRows_takePart_86 (by decide +kernel) ?_
        refine lv_isub hx hb d_DeltaRows_takePart_87 (z_i (pk_sub (a := i) (b := 1) (by omega)) ?_)
        refine z_lald hx hb hK hP 1 1 rfl rfl (by omega) (by decide) d_DeltaRows_takePart_88 ?_
        refine lv_lload_n hx hb d_DeltaRows_takePart_89 rfl (lv_at hl 1 rfl) ?_
        refine lv_ladd hx hb d_DeltaRows_takePart_90 ?_
        refine lv_aload_n hx hb d_DeltaRows_takePart_91 rfl (lv_at hl 0 rfl) ?_
        refine g_DeltaRows_20 hx hb hts hown hK hP 0 rfl rfl d_DeltaRows_takePart_92 ?_
        refine lv_iload hx hb d_DeltaRows_takePart_95 (lv_at hl 3 rfl) ?_
        refine lv_iload hx hb d_DeltaRows_takePart_97 (lv_at hl 2 rfl) ?_
        refine z_callEl (wr := [(o, .inr (3, [.ref ro, .int (nI rc), .ref bo, .ref so, .ref la, .ref lb])), (ro, .inl (cJ, 2000, .inr (.inl rz))), (la, .inr (1, [.int (nI bc), .ref hl1, .ref hi1, .ref hs1])), (hl1, .inl (cJ, 32, .inr (.inl le))), (hi1, .inl (cI, 128, .inl wi)), (hs1, .inl (cI, 128, .inl st))]) (w2 := [(o, .inr (3, [.ref ro, .int (nI rc), .ref bo, .ref so, .ref la, .ref lb])), (ro, .inl (cJ, 2000, .inr (.inl rz))), (bo, .inr (0, [.ref hw, .int (nI b.2)])), (hw, .inl (cJ, 2500, .inr (.inl b.1))), (la, .inr (1, [.int (nI bc), .ref hl1, .ref hi1, .ref hs1])), (hl1, .inl (cJ, 32, .inr (.inl le))), (hi1, .inl (cI, 128, .inl wi)), (hs1, .inl (cI, 128, .inl st))]) (z_runV (rest := [.long ((rz (i - 1)) + lv), .int (nI i), .ref ro]) hx hb hml hown hts hK hN (c_ByteRow_bitsIn l D cI cJ bo hw b q w (by (try dsimp only); omega) (by (try dsimp only); omega)) kk_DeltaRows_156 (zP.cut hP [2, 3] rfl) (hD.sub [2, 3] (by decide) rfl) 0 rfl rfl rfl hl.1 rfl (Nat.le_of_ble_eq_true rfl) d_DeltaRows_takePart_99 (by decide) (by decide)) hP hD hS hA [2, 3] [0, 1, 4, 5, 6, 7] [0, 1, 6, 7, 2, 3, 4, 5] rfl rfl (by decide) (by decide) (by decide) rfl (fun H locs hP hD hS => ?_)
        refine lv_ladd hx hb d_DeltaRows_takePart_102 ?_
        refine z_last (w2 := [(o, .inr (3, [.ref ro, .int (nI rc), .ref bo, .ref so, .ref la, .ref lb])), (ro, .inl (cJ, 2000, .inr (.inl (vp_updL rz i (((rz (i - 1)) + lv) + (p_bitsIn b.1 q w)))))), (bo, .inr (0, [.ref hw, .int (nI b.2)])), (hw, .inl (cJ, 2500, .inr (.inl b.1))), (la, .inr (1, [.int (nI bc), .ref hl1, .ref hi1, .ref hs1])), (hl1, .inl (cJ, 32, .inr (.inl le))), (hi1, .inl (cI, 128, .inl wi)), (hs1, .inl (cI, 128, .inl st))]) hx hb hK hP hD hS 1 1 rfl rfl (by omega) (by decide) d_DeltaRows_takePart_103 rfl (fun H locs hP hD hS => ?_)
        refine lv_iload hx hb d_DeltaRows_takePart_104 (lv_at hl 3 rfl) ?_
        refine lv_iload hx hb d_DeltaRows_takePart_106 (lv_at hl 2 rfl) ?_
        refine lv_iadd hx hb d_DeltaRows_takePart_108 (z_i (nI_add q w) ?_)
        refine lv_istore (lv' := [(6, .int (nI (q + w))), (0, .ref o), (3, .long lv), (5, .int (nI w)), (7, .int (nI (p_pe k (pp + 1) rc))), (8, .int (nI i))]) hx hb d_DeltaRows_takePart_109 hl (by decide) rfl (fun ls hl => ?_)
        refine lv_iinc (v := nI (i + 1)) (lv' := [(8, .int (nI (i + 1))), (6, .int (nI (q + w))), (0, .ref o), (3, .long lv), (5, .int (nI w)), (7, .int (nI (p_pe k (pp + 1) rc)))]) hx hb d_DeltaRows_takePart_111 hl (k := 5) rfl (zinc i 1) (by decide) rfl (fun ls hl => ?_)
        refine lv_goto (tgt := 67) hx hb d_DeltaRows_takePart_114 (by decide) ?_
        exact ih67 (i + 1) (q + w) (vp_updL rz i (rz (i - 1) + lv + p_bitsIn b.1 q w)) (by omega) (by omega) (by rw [show p_pe k (pp + 1) rc - i = (p_pe k (pp + 1) rc - (i + 1)) + 1 by omega, p_tpl] at hR; exact hR) (by omega) _ _ hP hD hS ls (lv_sub hl [2, 3, 4, 1, 5, 0] rfl)
  exact hlp67 _ (p_pe k pp rc) (s0 * 8) rq (by omega) (by omega) rfl (Nat.lt_succ_self _) _ _ hP hD hS ls (lv_sub hl [5, 4, 3, 2, 1, 0] rfl)

set_option maxHeartbeats 4000000 in
set_option maxRecDepth 100000 in
theorem c_DeltaRows_takeRow (l : Launch) (D : va_G) (cI cJ : ClassId) (o : Nat) (ro : Nat) (bo : Nat) (so : Nat) (la : Nat) (lb : Nat) (rc : Nat) (rq : Nat → Int64) (hl1 : Nat) (hi1 : Nat) (hs1 : Nat) (hw : Nat) (b : BB) (bc : Nat) (le : Nat → Int64) (wi : Nat → Int32) (st : Nat → Int32) (at_ : Nat) (fa : Nat) (pl : Int32) (to : Nat) (fi : Int64) (hto : to ≤ 2000) (hbc : bc ≤ 32) (hL : p_okL bc wi st) : Ct l D (zT cI cJ) y_DeltaRows_takeRow b_DeltaRows_takeRow 3 none 3 76 0 0 [.ref o] [(o, .inr (3, [.ref ro, .int (nI rc), .ref bo, .ref so, .ref la, .ref lb])), (ro, .inl (cJ, 2000, .inr (.inl rq))), (bo, .inr (0, [.ref hw, .int (nI b.2)])), (hw, .inl (cJ, 2500, .inr (.inl b.1))), (so, .inr (2, [.ref bo, .int (nI at_), .int (nI fa), .int pl, .int (nI to), .long fi])), (la, .inr (1, [.int (nI bc), .ref hl1, .ref hi1, .ref hs1])), (hl1, .inl (cJ, 32, .inr (.inl le))), (hi1, .inl (cI, 128, .inl wi)), (hs1, .inl (cI, 128, .inl st))] (zEq none [(o, .inr (3, [.ref ro, .int (nI to), .ref bo, .ref so, .ref la, .ref lb])), (ro, .inl (cJ, 2000, .inr (.inl (p_tr b.1 to fi bc le wi st rq)))), (bo, .inr (0, [.ref hw, .int (nI b.2)])), (hw, .inl (cJ, 2500, .inr (.inl b.1))), (so, .inr (2, [.ref bo, .int (nI at_), .int (nI fa), .int pl, .int (nI to), .long fi])), (la, .inr (1, [.int (nI bc), .ref hl1, .ref hi1, .ref hs1])), (hl1, .inl (cJ, 32, .inr (.inl le))), (hi1, .inl (cI, 128, .inl wi)), (hs1, .inl (cI, 128, .inl st))]) := by
  refine Ct.ofW (by decide) (Nat.le_of_ble_eq_true rfl) ?_
  intro p e s m below meth c A ls C0 hP hD hS hl
  obtain ⟨hx, hb, hml, hown, hts, hK, hN, hr, hlocks, hA, hnm⟩ := C0
  have hl : lv_has ls 3 [(0, .ref o)] := hl
  have hown : s.vm.findClass R_DeltaRows = some m.cls := hown
  refine lv_aload_n hx hb d_DeltaRows_takeRow_0 rfl (lv_at hl 0 rfl) ?_
  refine lv_aload_n hx hb d_DeltaRows_takeRow_1 rfl (lv_at hl 0 rfl) ?_
  refine g_DeltaRows_29 hx hb hts hown hK hP 0 rfl rfl d_DeltaRows_takeRow_2 ?_
  refine g_DeltaRows_146 hx hb hts hown hK hP 4 rfl rfl d_DeltaRows_takeRow_5 ?_
  refine p_DeltaRows_13 (w2 := [(o, .inr (3, [.ref ro, .int (nI to), .ref bo, .ref so, .ref la, .ref lb])), (ro, .inl (cJ, 2000, .inr (.inl rq))), (bo, .inr (0, [.ref hw, .int (nI b.2)])), (hw, .inl (cJ, 2500, .inr (.inl b.1))), (so, .inr (2, [.ref bo, .int (nI at_), .int (nI fa), .int pl, .int (nI to), .long fi])), (la, .inr (1, [.int (nI bc), .ref hl1, .ref hi1, .ref hs1])), (hl1, .inl (cJ, 32, .inr (.inl le))), (hi1, .inl (cI, 128, .inl wi)), (hs1, .inl (cI, 128, .inl st))]) hx hb hts hown hK hP hD hS 0 rfl (Nat.le_of_ble_eq_true rfl) rfl d_DeltaRows_takeRow_8 (fun H locs hP hD hS => ?_)
  have hj31 : ∀ (H : Heap) (locs : List Loc), va_P D classes [(o, .inr (3, [.ref ro, .int (nI to), .ref bo, .ref so, .ref la, .ref lb])), (ro, .inl (cJ, 2000, .inr (.inl (if 0 < to then vp_updL rq 0 fi else rq)))), (bo, .inr (0, [.ref hw, .int (nI b.2)])), (hw, .inl (cJ, 2500, .inr (.inl b.1))), (so, .inr (2, [.ref bo, .int (nI at_), .int (nI fa), .int pl, .int (nI to), .long fi])), (la, .inr (1, [.int (nI bc), .ref hl1, .ref hi1, .ref hs1])), (hl1, .inl (cJ, 32, .inr (.inl le))), (hi1, .inl (cI, 128, .inl wi)), (hs1, .inl (cI, 128, .inl st))] H → va_D A [(o, .inr (3, [.ref ro, .int (nI to), .ref bo, .ref so, .ref la, .ref lb])), (ro, .inl (cJ, 2000, .inr (.inl (if 0 < to then vp_updL rq 0 fi else rq)))), (bo, .inr (0, [.ref hw, .int (nI b.2)])), (hw, .inl (cJ, 2500, .inr (.inl b.1))), (so, .inr (2, [.ref bo, .int (nI at_), .int (nI fa), .int pl, .int (nI to), .long fi])), (la, .inr (1, [.int (nI bc), .ref hl1, .ref hi1, .ref hs1])), (hl1, .inl (cJ, 32, .inr (.inl le))), (hi1, .inl (cI, 128, .inl wi)), (hs1, .inl (cI, 128, .inl st))] → va_S A s.heap H locs → ∀ (ls : Array Slot), lv_has ls 3 [(0, .ref o)] → W p l e { frames := 3, cells := 0, slots := 0, locals := 76 } s m ([.ref o] : List Value).toArray below meth c H locs 0 0 (MQ below (zQ D (zEq none [(o, .inr (3, [.ref ro, .int (nI to), .ref bo, .ref so, .ref la, .ref lb])), (ro, .inl (cJ, 2000, .inr (.inl (p_tr b.1 to fi bc le wi st rq)))), (bo, .inr (0, [.ref hw, .int (nI b.2)])), (hw, .inl (cJ, 2500, .inr (.inl b.1))), (so, .inr (2, [.ref bo, .int (nI at_), .int (nI fa), .int pl, .int (nI to), .long fi])), (la, .inr (1, [.int (nI bc), .ref hl1, .ref hi1, .ref hs1])), (hl1, .inl (cJ, 32, .inr (.inl le))), (hi1, .inl (cI, 128, .inl wi)), (hs1, .inl (cI, 128, .inl st))]) A) ([.ref o] : List Value).toArray s 0 0 A) (F0 m 31 ls []) := by
    intro   H locs hP hD hS ls hl
    refine lv_iconst (v := nI 0) hx hb d_DeltaRows_takeRow_31 (by decide +kernel) ?_
    refine lv_istore_n (lv' := [(1, .int (nI 0)), (0, .ref o)]) hx hb d_DeltaRows_takeRow_32 rfl hl (by decide) rfl (fun ls hl => ?_)
    have hlp33 : ∀ (n : Nat) (k : Nat), (k ≤ bc) → bc - k < n → ∀ (H : Heap) (locs : List Loc), va_P D classes [(o, .inr (3, [.ref ro, .int (nI to), .ref bo, .ref so, .ref la, .ref lb])), (ro, .inl (cJ, 2000, .inr (.inl (p_trb b.1 to le wi st k (if 0 < to then vp_updL rq 0 fi else rq))))), (bo, .inr (0, [.ref hw, .int (nI b.2)])), (hw, .inl (cJ, 2500, .inr (.inl b.1))), (so, .inr (2, [.ref bo, .int (nI at_), .int (nI fa), .int pl, .int (nI to), .long fi])), (la, .inr (1, [.int (nI bc), .ref hl1, .ref hi1, .ref hs1])), (hl1, .inl (cJ, 32, .inr (.inl le))), (hi1, .inl (cI, 128, .inl wi)), (hs1, .inl (cI, 128, .inl st))] H → va_D A [(o, .inr (3, [.ref ro, .int (nI to), .ref bo, .ref so, .ref la, .ref lb])), (ro, .inl (cJ, 2000, .inr (.inl (p_trb b.1 to le wi st k (if 0 < to then vp_updL rq 0 fi else rq))))), (bo, .inr (0, [.ref hw, .int (nI b.2)])), (hw, .inl (cJ, 2500, .inr (.inl b.1))), (so, .inr (2, [.ref bo, .int (nI at_), .int (nI fa), .int pl, .int (nI to), .long fi])), (la, .inr (1, [.int (nI bc), .ref hl1, .ref hi1, .ref hs1])), (hl1, .inl (cJ, 32, .inr (.inl le))), (hi1, .inl (cI, 128, .inl wi)), (hs1, .inl (cI, 128, .inl st))] → va_S A s.heap H locs → ∀ (ls : Array Slot), lv_has ls 3 [(0, .ref o), (1, .int (nI k))] → W p l e { frames := 3, cells := 0, slots := 0, locals := 76 } s m ([.ref o] : List Value).toArray below meth c H locs 0 0 (MQ below (zQ D (zEq none [(o, .inr (3, [.ref ro, .int (nI to), .ref bo, .ref so, .ref la, .ref lb])), (ro, .inl (cJ, 2000, .inr (.inl (p_tr b.1 to fi bc le wi st rq)))), (bo, .inr (0, [.ref hw, .int (nI b.2)])), (hw, .inl (cJ, 2500, .inr (.inl b.1))), (so, .inr (2, [.ref bo, .int (nI at_), .int (nI fa), .int pl, .int (nI to), .long fi])), (la, .inr (1, [.int (nI bc), .ref hl1, .ref hi1, .ref hs1])), (hl1, .inl (cJ, 32, .inr (.inl le))), (hi1, .inl (cI, 128, .inl wi)), (hs1, .inl (cI, 128, .inl st))]) A) ([.ref o] : List Value).toArray s 0 0 A) (F0 m 33 ls []) := by
      intro n
      induction n with
      | zero => intro k hk hmu; exact absurd hmu (Nat.not_lt_zero _)
      | succ n ih =>
        intro k hk hmu H locs hP hD hS ls hl
        have ih33 := ih
        refine lv_iload_n hx hb d_DeltaRows_takeRow_33 rfl (lv_at hl 1 rfl) ?_
        refine lv_aload_n hx hb d_DeltaRows_takeRow_34 rfl (lv_at hl 0 rfl) ?_
        refine g_DeltaRows_36 hx hb hts hown hK hP 0 rfl rfl d_DeltaRows_takeRow_35 ?_
        refine g_DeltaRows_59 hx hb hts hown hK hP 5 rfl rfl d_DeltaRows_takeRow_38 ?_
        refine zn_ge (a := k) (b := bc) (by omega) (by omega) hx hb d_DeltaRows_takeRow_41 (tgt := 69) (by decide) (fun c_41 => ?_) (fun c_41 => ?_)
        · skip
          exact z_vret hx hb hr hlocks hS hP hD ⟨rfl, by unfold p_tr; rw [show k = bc by omega]⟩ d_DeltaRows_takeRow_69
        · skip
          refine lv_iconst (v := nI 0) hx hb d_DeltaRows_takeRow_44 (by decide +kernel) ?_
          refine lv_istore_n (lv' := [(2, .int (nI 0)), (0, .ref o), (1, .int (nI k))]) hx hb d_DeltaRows_takeRow_45 rfl hl (by decide) rfl (fun ls hl => ?_)
          have hlp46 : ∀ (n : Nat) (t : Nat), (t ≤ 4) → 4 - t < n → ∀ (H : Heap) (locs : List Loc), va_P D classes [(o, .inr (3, [.ref ro, .int (nI to), .ref bo, .ref so, .ref la, .ref lb])), (ro, .inl (cJ, 2000, .inr (.inl (p_trp b.1 to le wi st k t (p_trb b.1 to le wi st k (if 0 < to then vp_updL rq 0 fi else rq)))))), (bo, .inr (0, [.ref hw, .int (nI b.2)])), (hw, .inl (cJ, 2500, .inr (.inl b.1))), (so, .inr (2, [.ref bo, .int (nI at_), .int (nI fa), .int pl, .int (nI to), .long fi])), (la, .inr (1, [.int (nI bc), .ref hl1, .ref hi1, .ref hs1])), (hl1, .inl (cJ, 32, .inr (.inl le))), (hi1, .inl (cI, 128, .inl wi)), (hs1, .inl (cI, 128, .inl st))] H → va_D A [(o, .inr (3, [.ref ro, .int (nI to), .ref bo, .ref so, .ref la, .ref lb])), (ro, .inl (cJ, 2000, .inr (.inl (p_trp b.1 to le wi st k t (p_trb b.1 to le wi st k (if 0 < to then vp_updL rq 0 fi else rq)))))), (bo, .inr (0, [.ref hw, .int (nI b.2)])), (hw, .inl (cJ, 2500, .inr (.inl b.1))), (so, .inr (2, [.ref bo, .int (nI at_), .int (nI fa), .int pl, .int (nI to), .long fi])), (la, .inr (1, [.int (nI bc), .ref hl1, .ref hi1, .ref hs1])), (hl1, .inl (cJ, 32, .inr (.inl le))), (hi1, .inl (cI, 128, .inl wi)), (hs1, .inl (cI, 128, .inl st))] → va_S A s.heap H locs → ∀ (ls : Array Slot), lv_has ls 3 [(0, .ref o), (1, .int (nI k)), (2, .int (nI t))] → W p l e { frames := 3, cells := 0, slots := 0, locals := 76 } s m ([.ref o] : List Value).toArray below meth c H locs 0 0 (MQ below (zQ D (zEq none [(o, .inr (3, [.ref ro, .int (nI to), .ref bo, .ref so, .ref la, .ref lb])), (ro, .inl (cJ, 2000, .inr (.inl (p_tr b.1 to fi bc le wi st rq)))), (bo, .inr (0, [.ref hw, .int (nI b.2)])), (hw, .inl (cJ, 2500, .inr (.inl b.1))), (so, .inr (2, [.ref bo, .int (nI at_), .int (nI fa), .int pl, .int (nI to), .long fi])), (la, .inr (1, [.int (nI bc), .ref hl1, .ref hi1, .ref hs1])), (hl1, .inl (cJ, 32, .inr (.inl le))), (hi1, .inl (cI, 128, .inl wi)), (hs1, .inl (cI, 128, .inl st))]) A) ([.ref o] : List Value).toArray s 0 0 A) (F0 m 46 ls []) := by
            intro n
            induction n with
            | zero => intro t h1 hmu; exact absurd hmu (Nat.not_lt_zero _)
            | succ n ih =>
              intro t h1 hmu H locs hP hD hS ls hl
              have ih46 := ih
              refine lv_iload_n hx hb d_DeltaRows_takeRow_46 rfl (lv_at hl 2 rfl) ?_
              refine lv_iconst (v := nI 4) hx hb d_DeltaRows_takeRow_47 (by decide +kernel) ?_
              refine zn_ge (a := t) (b := 4) (by omega) (by omega) hx hb d_DeltaRows_takeRow_48 (tgt := 63) (by decide) (fun c_48 => ?_) (fun c_48 => ?_)
              · skip
                refine lv_iinc (v := nI (k + 1)) (lv' := [(1, .int (nI (k + 1))), (0, .ref o), (2, .int (nI t))]) hx hb d_DeltaRows_takeRow_63 hl (k := 1) rfl (zinc k 1) (by decide) rfl (fun ls hl => ?_)
                refine lv_goto (tgt := 33) hx hb d_DeltaRows_takeRow_66 (by decide) ?_
                exact ih33 (k + 1) (by omega) (by omega) _ _ (by rw [show t = 4 by omega] at hP; exact hP) (by rw [show t = 4 by omega] at hD; exact hD) hS ls (lv_sub hl [1, 0] rfl)
              · skip
                refine lv_aload_n hx hb d_DeltaRows_takeRow_51 rfl (lv_at hl 0 rfl) ?_
                refine lv_iload_n hx hb d_DeltaRows_takeRow_52 rfl (lv_at hl 1 rfl) ?_
                refine lv_iload_n hx hb d_DeltaRows_takeRow_53 rfl (lv_at hl 2 rfl) ?_
                refine z_callEv (wr := [(so, .inr (2, [.ref bo, .int (nI at_), .int (nI fa), .int pl, .int (nI to), .long fi]))]) (w2 := [(o, .inr (3, [.ref ro, .int (nI to), .ref bo, .ref so, .ref la, .ref lb])), (ro, .inl (cJ, 2000, .inr (.inl (p_tp b.1 to (le k) (cl wi (k * 4 + t)) (cl st (k * 4 + t)) k t (p_trp b.1 to le wi st k t (p_trb b.1 to le wi st k (if 0 < to then vp_updL rq 0 fi else rq))))))), (bo, .inr (0, [.ref hw, .int (nI b.2)])), (hw, .inl (cJ, 2500, .inr (.inl b.1))), (so, .inr (2, [.ref bo, .int (nI at_), .int (nI fa), .int pl, .int (nI to), .long fi])), (la, .inr (1, [.int (nI bc), .ref hl1, .ref hi1, .ref hs1])), (hl1, .inl (cJ, 32, .inr (.inl le))), (hi1, .inl (cI, 128, .inl wi)), (hs1, .inl (cI, 128, .inl st))]) (z_runV (rest := []) hx hb hml hown hts hK hN (c_DeltaRows_takePart l D cI cJ o ro bo so la lb to (p_trp b.1 to le wi st k t (p_trb b.1 to le wi st k (if 0 < to then vp_updL rq 0 fi else rq))) hl1 hi1 hs1 hw b bc le wi st (le k) (cl wi (k * 4 + t)) (cl st (k * 4 + t)) k t (by (try dsimp only); omega) (by (try dsimp only); omega) (by (try dsimp only); omega) rfl (hL (k * 4 + t) (by omega)).1 (hL (k * 4 + t) (by omega)).2.2.1 (hL (k * 4 + t) (by omega)).2.1 (hL (k * 4 + t) (by omega)).2.2.2) kk_DeltaRows_153 (zP.cut hP [0, 1, 2, 3, 5, 6, 7, 8] rfl) (hD.sub [0, 1, 2, 3, 5, 6, 7, 8] (by decide) rfl) 0 rfl rfl rfl hl.1 rfl (Nat.le_of_ble_eq_true rfl) d_DeltaRows_takeRow_54 (by decide) (by decide)) hP hD hS hA [0, 1, 2, 3, 5, 6, 7, 8] [4] [1, 2, 3, 4, 0, 5, 6, 7, 8] rfl rfl (by decide) (by decide) (by decide) rfl (fun H locs hP hD hS => ?_)
                refine lv_iinc (v := nI (t + 1)) (lv' := [(2, .int (nI (t + 1))), (0, .ref o), (1, .int (nI k))]) hx hb d_DeltaRows_takeRow_57 hl (k := 2) rfl (zinc t 1) (by decide) rfl (fun ls hl => ?_)
                refine lv_goto (tgt := 46) hx hb d_DeltaRows_takeRow_60 (by decide) ?_
                exact ih46 (t + 1) (by omega) (by omega) _ _ hP hD hS ls (lv_sub hl [1, 2, 0] rfl)
          exact hlp46 _ 0 (by decide) (Nat.lt_succ_self _) _ _ hP hD hS ls (lv_sub hl [1, 2, 0] rfl)
    exact hlp33 _ 0 (Nat.zero_le _) (Nat.lt_succ_self _) _ _ hP hD hS ls (lv_sub hl [1, 0] rfl)
  refine lv_aload_n hx hb d_DeltaRows_takeRow_11 rfl (lv_at hl 0 rfl) ?_
  refine g_DeltaRows_13 hx hb hts hown hK hP 0 rfl rfl d_DeltaRows_takeRow_12 ?_
  refine z0_le (a := to) (by omega) hx hb d_DeltaRows_takeRow_15 (tgt := 31) (by decide) (fun c_15 => ?_) (fun c_15 => ?_)
  · skip
    exact hj31   _ _ (by first | (rw [if_pos c_15]; exact hP) | (rw [if_neg (by omega)]; exact hP)) (by first | (rw [if_pos c_15]; exact hD) | (rw [if_neg (by omega)]; exact hD)) hS ls (lv_sub hl [0] rfl)
  · skip
    refine lv_aload_n hx hb d_DeltaRows_takeRow_18 rfl (lv_at hl 0 rfl) ?_
    refine g_DeltaRows_9 hx hb hts hown hK hP 0 rfl rfl d_DeltaRows_takeRow_19 ?_
    refine lv_iconst (v := nI 0) hx hb d_DeltaRows_takeRow_22 (by decide +kernel) ?_
    refine lv_aload_n hx hb d_DeltaRows_takeRow_23 rfl (lv_at hl 0 rfl) ?_
    refine g_DeltaRows_29 hx hb hts hown hK hP 0 rfl rfl d_DeltaRows_takeRow_24 ?_
    refine g_DeltaRows_149 hx hb hts hown hK hP 4 rfl rfl d_DeltaRows_takeRow_27 ?_
    refine z_last (w2 := [(o, .inr (3, [.ref ro, .int (nI to), .ref bo, .ref so, .ref la, .ref lb])), (ro, .inl (cJ, 2000, .inr (.inl (vp_updL rq 0 fi)))), (bo, .inr (0, [.ref hw, .int (nI b.2)])), (hw, .inl (cJ, 2500, .inr (.inl b.1))), (so, .inr (2, [.ref bo, .int (nI at_), .int (nI fa), .int pl, .int (nI to), .long fi])), (la, .inr (1, [.int (nI bc), .ref hl1, .ref hi1, .ref hs1])), (hl1, .inl (cJ, 32, .inr (.inl le))), (hi1, .inl (cI, 128, .inl wi)), (hs1, .inl (cI, 128, .inl st))]) hx hb hK hP hD hS 1 1 rfl rfl (by omega) (by decide) d_DeltaRows_takeRow_30 rfl (fun H locs hP hD hS => ?_)
    exact hj31   _ _ (by first | (rw [if_pos c_15]; exact hP) | (rw [if_neg (by omega)]; exact hP)) (by first | (rw [if_pos c_15]; exact hD) | (rw [if_neg (by omega)]; exact hD)) hS ls (lv_sub hl [0] rfl)

set_option maxHeartbeats 4000000 in
set_option maxRecDepth 100000 in
theorem c_DeltaRows_init (l : Launch) (D : va_G) (cI cJ : ClassId) (o : Nat)  : Ct l D (zT cI cJ) y_DeltaRows_init b_DeltaRows_init 1 none 2 41 12 5092 [.ref o] [(o, .inr (3, [.null, .int 0, .null, .null, .null, .null]))] (fun r w => r = none ∧ ∃ (ro : Nat) (bo : Nat) (so : Nat) (la : Nat) (lb : Nat) (hw : Nat) (hl1 : Nat) (hi1 : Nat) (hs1 : Nat) (hl2 : Nat) (hi2 : Nat) (hs2 : Nat), w = [(o, .inr (3, [.ref ro, .int (nI 0), .ref bo, .ref so, .ref la, .ref lb])), (ro, .inl (cJ, 2000, .inr (.inl (fun _ => 0)))), (bo, .inr (0, [.ref hw, .int (nI 0)])), (hw, .inl (cJ, 2500, .inr (.inl (fun _ => 0)))), (so, .inr (2, [.ref bo, .int (nI 0), .int (nI 0), .int (-1), .int (nI 0), .long 0])), (la, .inr (1, [.int (nI 0), .ref hl1, .ref hi1, .ref hs1])), (hl1, .inl (cJ, 32, .inr (.inl (fun _ => 0)))), (hi1, .inl (cI, 128, .inl (fun _ => 0))), (hs1, .inl (cI, 128, .inl (fun _ => 0))), (lb, .inr (1, [.int (nI 0), .ref hl2, .ref hi2, .ref hs2])), (hl2, .inl (cJ, 32, .inr (.inl (fun _ => 0)))), (hi2, .inl (cI, 128, .inl (fun _ => 0))), (hs2, .inl (cI, 128, .inl (fun _ => 0)))]) := by
  refine Ct.ofW (by decide) (Nat.le_of_ble_eq_true rfl) ?_
  intro p e s m below meth c A ls C0 hP hD hS hl
  obtain ⟨hx, hb, hml, hown, hts, hK, hN, hr, hlocks, hA, hnm⟩ := C0
  have hl : lv_has ls 1 [(0, .ref o)] := hl
  have hown : s.vm.findClass R_DeltaRows = some m.cls := hown
  refine lv_aload_n hx hb d_DeltaRows_init_0 rfl (lv_at hl 0 rfl) ?_
  refine W.objInit hx hb hown (kw_DeltaRows_3 hts) (ko_1 hts) (ko_2 hts) rfl (by rw [hml]; exact hl.1) rfl d_DeltaRows_init_1 (by decide) (Nat.le_of_ble_eq_true rfl) ?_
  refine W.eq (g2 := F0 m 4 ls []) rfl ?_
  refine lv_aload_n hx hb d_DeltaRows_init_4 rfl (lv_at hl 0 rfl) ?_
  refine lv_sipush (v := nI 2000) hx hb d_DeltaRows_init_5 (by decide +kernel) ?_
  refine z_newa (N' := 2000) (a0 := (2000, .inr (.inl (fun _ => 0)))) hx hb (ka_long hts) (hK.2 1 _ rfl).2 hP hD hS hA (fun _ => rfl) (by decide) (by decide) (by decide) (by decide) (by decide) d_DeltaRows_init_8 (fun qa1 H hP hD hS => ?_)
  have hP : va_P D classes [(o, .inr (3, [.null, .int 0, .null, .null, .null, .null])), (qa1, .inl (cJ, 2000, .inr (.inl (fun _ => 0))))] H := hP
  have hD : va_D A [(o, .inr (3, [.null, .int 0, .null, .null, .null, .null])), (qa1, .inl (cJ, 2000, .inr (.inl (fun _ => 0))))] := hD
  refine p_DeltaRows_9 (w2 := [(o, .inr (3, [.ref qa1, .int 0, .null, .null, .null, .null])), (qa1, .inl (cJ, 2000, .inr (.inl (fun _ => 0))))]) hx hb hts hown hnm hK hP hD hS 0 rfl (Nat.le_of_ble_eq_true rfl) rfl d_DeltaRows_init_10 (fun H locs hP hD hS => ?_)
  refine lv_aload_n hx hb d_DeltaRows_init_13 rfl (lv_at hl 0 rfl) ?_
  refine lv_iconst (v := nI 0) hx hb d_DeltaRows_init_14 (by decide +kernel) ?_
  refine p_DeltaRows_13 (w2 := [(o, .inr (3, [.ref qa1, .int (nI 0), .null, .null, .null, .null])), (qa1, .inl (cJ, 2000, .inr (.inl (fun _ => 0))))]) hx hb hts hown hK hP hD hS 0 rfl (Nat.le_of_ble_eq_true rfl) rfl d_DeltaRows_init_15 (fun H locs hP hD hS => ?_)
  refine lv_aload_n hx hb d_DeltaRows_init_18 rfl (lv_at hl 0 rfl) ?_
  refine va_new (ci := 0) (fs := [.null, .int 0]) (C := R_ByteRow) (T := F_ByteRow) (N := 2) hx hb hts i_ByteRow t_ByteRow t_ByteRow_ok hown (kw_DeltaRows_17 hts) (kn_ByteRow_1 hts) (kn_ByteRow_2 hts) hK hP hD hS hA rfl (fun j hj => by rcases (show j = 0 ∨ j = 1 by omega) with rfl | rfl <;> rfl) (by decide) (by decide) d_DeltaRows_init_19 (fun qo2 H hP hD hS => ?_)
  have hP : va_P D classes [(o, .inr (3, [.ref qa1, .int (nI 0), .null, .null, .null, .null])), (qa1, .inl (cJ, 2000, .inr (.inl (fun _ => 0)))), (qo2, .inr (0, [.null, .int 0]))] H := hP
  have hD : va_D A [(o, .inr (3, [.ref qa1, .int (nI 0), .null, .null, .null, .null])), (qa1, .inl (cJ, 2000, .inr (.inl (fun _ => 0)))), (qo2, .inr (0, [.null, .int 0]))] := hD
  refine lv_dup hx hb d_DeltaRows_init_22 rfl ?_
  refine z_call (wr := [(o, .inr (3, [.ref qa1, .int (nI 0), .null, .null, .null, .null])), (qa1, .inl (cJ, 2000, .inr (.inl (fun _ => 0))))]) (z_runI (rest := [.ref qo2, .ref o]) hx hb hml hown hts hK hN (c_ByteRow_init l D cI cJ qo2 ) kk_DeltaRows_19 (zP.cut hP [2] rfl) (hD.sub [2] (by decide) rfl) rfl hl.1 rfl (Nat.le_of_ble_eq_true rfl) d_DeltaRows_init_23 (by decide) (by decide)) hP hD hS hA [2] [0, 1] rfl rfl (by decide) (by decide) (fun rv w1 H locs hq hP hD hS => ?_)
  obtain ⟨rfl, qhw3, rfl⟩ := hq
  have hP : va_P D classes [(o, .inr (3, [.ref qa1, .int (nI 0), .null, .null, .null, .null])), (qa1, .inl (cJ, 2000, .inr (.inl (fun _ => 0)))), (qo2, .inr (0, [.ref qhw3, .int (nI 0)])), (qhw3, .inl (cJ, 2500, .inr (.inl (fun _ => 0))))] H := hP
  have hD : va_D A [(o, .inr (3, [.ref qa1, .int (nI 0), .null, .null, .null, .null])), (qa1, .inl (cJ, 2000, .inr (.inl (fun _ => 0)))), (qo2, .inr (0, [.ref qhw3, .int (nI 0)])), (qhw3, .inl (cJ, 2500, .inr (.inl (fun _ => 0))))] := hD
  refine W.eq (g2 := F0 m 26 ls [.ref qo2, .ref o]) rfl ?_
  refine p_DeltaRows_20 (w2 := [(o, .inr (3, [.ref qa1, .int (nI 0), .ref qo2, .null, .null, .null])), (qa1, .inl (cJ, 2000, .inr (.inl (fun _ => 0)))), (qo2, .inr (0, [.ref qhw3, .int (nI 0)])), (qhw3, .inl (cJ, 2500, .inr (.inl (fun _ => 0))))]) hx hb hts hown hnm hK hP hD hS 0 rfl (Nat.le_of_ble_eq_true rfl) rfl d_DeltaRows_init_26 (fun H locs hP hD hS => ?_)
  refine lv_aload_n hx hb d_DeltaRows_init_29 rfl (lv_at hl 0 rfl) ?_
  refine va_new (ci := 2) (fs := [.null, .int 0, .int 0, .int 0, .int 0, .long 0]) (C := R_Scan) (T := F_Scan) (N := 6) hx hb hts i_Scan t_Scan t_Scan_ok hown (kw_DeltaRows_24 hts) (kn_Scan_1 hts) (kn_Scan_2 hts) hK hP hD hS hA rfl (fun j hj => by rcases (show j = 0 ∨ j = 1 ∨ j = 2 ∨ j = 3 ∨ j = 4 ∨ j = 5 by omega) with rfl | rfl | rfl | rfl | rfl | rfl <;> rfl) (by decide) (by decide) d_DeltaRows_init_30 (fun qo4 H hP hD hS => ?_)
  have hP : va_P D classes [(o, .inr (3, [.ref qa1, .int (nI 0), .ref qo2, .null, .null, .null])), (qa1, .inl (cJ, 2000, .inr (.inl (fun _ => 0)))), (qo2, .inr (0, [.ref qhw3, .int (nI 0)])), (qhw3, .inl (cJ, 2500, .inr (.inl (fun _ => 0)))), (qo4, .inr (2, [.null, .int 0, .int 0, .int 0, .int 0, .long 0]))] H := hP
  have hD : va_D A [(o, .inr (3, [.ref qa1, .int (nI 0), .ref qo2, .null, .null, .null])), (qa1, .inl (cJ, 2000, .inr (.inl (fun _ => 0)))), (qo2, .inr (0, [.ref qhw3, .int (nI 0)])), (qhw3, .inl (cJ, 2500, .inr (.inl (fun _ => 0)))), (qo4, .inr (2, [.null, .int 0, .int 0, .int 0, .int 0, .long 0]))] := hD
  refine lv_dup hx hb d_DeltaRows_init_33 rfl ?_
  refine lv_aload_n hx hb d_DeltaRows_init_34 rfl (lv_at hl 0 rfl) ?_
  refine g_DeltaRows_20 hx hb hts hown hK hP 0 rfl rfl d_DeltaRows_init_35 ?_
  refine z_callEv (wr := [(o, .inr (3, [.ref qa1, .int (nI 0), .ref qo2, .null, .null, .null])), (qa1, .inl (cJ, 2000, .inr (.inl (fun _ => 0)))), (qo2, .inr (0, [.ref qhw3, .int (nI 0)])), (qhw3, .inl (cJ, 2500, .inr (.inl (fun _ => 0))))]) (w2 := [(o, .inr (3, [.ref qa1, .int (nI 0), .ref qo2, .null, .null, .null])), (qa1, .inl (cJ, 2000, .inr (.inl (fun _ => 0)))), (qo2, .inr (0, [.ref qhw3, .int (nI 0)])), (qhw3, .inl (cJ, 2500, .inr (.inl (fun _ => 0)))), (qo4, .inr (2, [.ref qo2, .int (nI 0), .int (nI 0), .int (-1), .int (nI 0), .long 0]))]) (z_runI (rest := [.ref qo4, .ref o]) hx hb hml hown hts hK hN (c_Scan_init l D cI cJ qo4 qo2 ) kk_DeltaRows_26 (zP.cut hP [4] rfl) (hD.sub [4] (by decide) rfl) rfl hl.1 rfl (Nat.le_of_ble_eq_true rfl) d_DeltaRows_init_38 (by decide) (by decide)) hP hD hS hA [4] [0, 1, 2, 3] [0, 1, 2, 3, 4] rfl rfl (by decide) (by decide) (by decide) rfl (fun H locs hP hD hS => ?_)
  refine p_DeltaRows_29 (w2 := [(o, .inr (3, [.ref qa1, .int (nI 0), .ref qo2, .ref qo4, .null, .null])), (qa1, .inl (cJ, 2000, .inr (.inl (fun _ => 0)))), (qo2, .inr (0, [.ref qhw3, .int (nI 0)])), (qhw3, .inl (cJ, 2500, .inr (.inl (fun _ => 0)))), (qo4, .inr (2, [.ref qo2, .int (nI 0), .int (nI 0), .int (-1), .int (nI 0), .long 0]))]) hx hb hts hown hnm hK hP hD hS 0 rfl (Nat.le_of_ble_eq_true rfl) rfl d_DeltaRows_init_41 (fun H locs hP hD hS => ?_)
  refine lv_aload_n hx hb d_DeltaRows_init_44 rfl (lv_at hl 0 rfl) ?_
  refine va_new (ci := 1) (fs := [.int 0, .null, .null, .null]) (C := R_Layout) (T := F_Layout) (N := 4) hx hb hts i_Layout t_Layout t_Layout_ok hown (kw_DeltaRows_33 hts) (kn_Layout_1 hts) (kn_Layout_2 hts) hK hP hD hS hA rfl (fun j hj => by rcases (show j = 0 ∨ j = 1 ∨ j = 2 ∨ j = 3 by omega) with rfl | rfl | rfl | rfl <;> rfl) (by decide) (by decide) d_DeltaRows_init_45 (fun qo5 H hP hD hS => ?_)
  have hP : va_P D classes [(o, .inr (3, [.ref qa1, .int (nI 0), .ref qo2, .ref qo4, .null, .null])), (qa1, .inl (cJ, 2000, .inr (.inl (fun _ => 0)))), (qo2, .inr (0, [.ref qhw3, .int (nI 0)])), (qhw3, .inl (cJ, 2500, .inr (.inl (fun _ => 0)))), (qo4, .inr (2, [.ref qo2, .int (nI 0), .int (nI 0), .int (-1), .int (nI 0), .long 0])), (qo5, .inr (1, [.int 0, .null, .null, .null]))] H := hP
  have hD : va_D A [(o, .inr (3, [.ref qa1, .int (nI 0), .ref qo2, .ref qo4, .null, .null])), (qa1, .inl (cJ, 2000, .inr (.inl (fun _ => 0)))), (qo2, .inr (0, [.ref qhw3, .int (nI 0)])), (qhw3, .inl (cJ, 2500, .inr (.inl (fun _ => 0)))), (qo4, .inr (2, [.ref qo2, .int (nI 0), .int (nI 0), .int (-1), .int (nI 0), .long 0])), (qo5, .inr (1, [.int 0, .null, .null, .null]))] := hD
  refine lv_dup hx hb d_DeltaRows_init_48 rfl ?_
  refine z_call (wr := [(o, .inr (3, [.ref qa1, .int (nI 0), .ref qo2, .ref qo4, .null, .null])), (qa1, .inl (cJ, 2000, .inr (.inl (fun _ => 0)))), (qo2, .inr (0, [.ref qhw3, .int (nI 0)])), (qhw3, .inl (cJ, 2500, .inr (.inl (fun _ => 0)))), (qo4, .inr (2, [.ref qo2, .int (nI 0), .int (nI 0), .int (-1), .int (nI 0), .long 0]))]) (z_runI (rest := [.ref qo5, .ref o]) hx hb hml hown hts hK hN (c_Layout_init l D cI cJ qo5 ) kk_DeltaRows_35 (zP.cut hP [5] rfl) (hD.sub [5] (by decide) rfl) rfl hl.1 rfl (Nat.le_of_ble_eq_true rfl) d_DeltaRows_init_49 (by decide) (by decide)) hP hD hS hA [5] [0, 1, 2, 3, 4] rfl rfl (by decide) (by decide) (fun rv w1 H locs hq hP hD hS => ?_)
  obtain ⟨rfl, qhl16, qhi17, qhs18, rfl⟩ := hq
  have hP : va_P D classes [(o, .inr (3, [.ref qa1, .int (nI 0), .ref qo2, .ref qo4, .null, .null])), (qa1, .inl (cJ, 2000, .inr (.inl (fun _ => 0)))), (qo2, .inr (0, [.ref qhw3, .int (nI 0)])), (qhw3, .inl (cJ, 2500, .inr (.inl (fun _ => 0)))), (qo4, .inr (2, [.ref qo2, .int (nI 0), .int (nI 0), .int (-1), .int (nI 0), .long 0])), (qo5, .inr (1, [.int (nI 0), .ref qhl16, .ref qhi17, .ref qhs18])), (qhl16, .inl (cJ, 32, .inr (.inl (fun _ => 0)))), (qhi17, .inl (cI, 128, .inl (fun _ => 0))), (qhs18, .inl (cI, 128, .inl (fun _ => 0)))] H := hP
  have hD : va_D A [(o, .inr (3, [.ref qa1, .int (nI 0), .ref qo2, .ref qo4, .null, .null])), (qa1, .inl (cJ, 2000, .inr (.inl (fun _ => 0)))), (qo2, .inr (0, [.ref qhw3, .int (nI 0)])), (qhw3, .inl (cJ, 2500, .inr (.inl (fun _ => 0)))), (qo4, .inr (2, [.ref qo2, .int (nI 0), .int (nI 0), .int (-1), .int (nI 0), .long 0])), (qo5, .inr (1, [.int (nI 0), .ref qhl16, .ref qhi17, .ref qhs18])), (qhl16, .inl (cJ, 32, .inr (.inl (fun _ => 0)))), (qhi17, .inl (cI, 128, .inl (fun _ => 0))), (qhs18, .inl (cI, 128, .inl (fun _ => 0)))] := hD
  refine W.eq (g2 := F0 m 52 ls [.ref qo5, .ref o]) rfl ?_
  refine p_DeltaRows_36 (w2 := [(o, .inr (3, [.ref qa1, .int (nI 0), .ref qo2, .ref qo4, .ref qo5, .null])), (qa1, .inl (cJ, 2000, .inr (.inl (fun _ => 0)))), (qo2, .inr (0, [.ref qhw3, .int (nI 0)])), (qhw3, .inl (cJ, 2500, .inr (.inl (fun _ => 0)))), (qo4, .inr (2, [.ref qo2, .int (nI 0), .int (nI 0), .int (-1), .int (nI 0), .long 0])), (qo5, .inr (1, [.int (nI 0), .ref qhl16, .ref qhi17, .ref qhs18])), (qhl16, .inl (cJ, 32, .inr (.inl (fun _ => 0)))), (qhi17, .inl (cI, 128, .inl (fun _ => 0))), (qhs18, .inl (cI, 128, .inl (fun _ => 0)))]) hx hb hts hown hK hP hD hS 0 rfl (Nat.le_of_ble_eq_true rfl) rfl d_DeltaRows_init_52 (fun H locs hP hD hS => ?_)
  refine lv_aload_n hx hb d_DeltaRows_init_55 rfl (lv_at hl 0 rfl) ?_
  refine va_new (ci := 1) (fs := [.int 0, .null, .null, .null]) (C := R_Layout) (T := F_Layout) (N := 4) hx hb hts i_Layout t_Layout t_Layout_ok hown (kw_DeltaRows_33 hts) (kn_Layout_1 hts) (kn_Layout_2 hts) hK hP hD hS hA rfl (fun j hj => by rcases (show j = 0 ∨ j = 1 ∨ j = 2 ∨ j = 3 by omega) with rfl | rfl | rfl | rfl <;> rfl) (by decide) (by decide) d_DeltaRows_init_56 (fun qo9 H hP hD hS => ?_)
  have hP : va_P D classes [(o, .inr (3, [.ref qa1, .int (nI 0), .ref qo2, .ref qo4, .ref qo5, .null])), (qa1, .inl (cJ, 2000, .inr (.inl (fun _ => 0)))), (qo2, .inr (0, [.ref qhw3, .int (nI 0)])), (qhw3, .inl (cJ, 2500, .inr (.inl (fun _ => 0)))), (qo4, .inr (2, [.ref qo2, .int (nI 0), .int (nI 0), .int (-1), .int (nI 0), .long 0])), (qo5, .inr (1, [.int (nI 0), .ref qhl16, .ref qhi17, .ref qhs18])), (qhl16, .inl (cJ, 32, .inr (.inl (fun _ => 0)))), (qhi17, .inl (cI, 128, .inl (fun _ => 0))), (qhs18, .inl (cI, 128, .inl (fun _ => 0))), (qo9, .inr (1, [.int 0, .null, .null, .null]))] H := hP
  have hD : va_D A [(o, .inr (3, [.ref qa1, .int (nI 0), .ref qo2, .ref qo4, .ref qo5, .null])), (qa1, .inl (cJ, 2000, .inr (.inl (fun _ => 0)))), (qo2, .inr (0, [.ref qhw3, .int (nI 0)])), (qhw3, .inl (cJ, 2500, .inr (.inl (fun _ => 0)))), (qo4, .inr (2, [.ref qo2, .int (nI 0), .int (nI 0), .int (-1), .int (nI 0), .long 0])), (qo5, .inr (1, [.int (nI 0), .ref qhl16, .ref qhi17, .ref qhs18])), (qhl16, .inl (cJ, 32, .inr (.inl (fun _ => 0)))), (qhi17, .inl (cI, 128, .inl (fun _ => 0))), (qhs18, .inl (cI, 128, .inl (fun _ => 0))), (qo9, .inr (1, [.int 0, .null, .null, .null]))] := hD
  refine lv_dup hx hb d_DeltaRows_init_59 rfl ?_
  refine z_call (wr := [(o, .inr (3, [.ref qa1, .int (nI 0), .ref qo2, .ref qo4, .ref qo5, .null])), (qa1, .inl (cJ, 2000, .inr (.inl (fun _ => 0)))), (qo2, .inr (0, [.ref qhw3, .int (nI 0)])), (qhw3, .inl (cJ, 2500, .inr (.inl (fun _ => 0)))), (qo4, .inr (2, [.ref qo2, .int (nI 0), .int (nI 0), .int (-1), .int (nI 0), .long 0])), (qo5, .inr (1, [.int (nI 0), .ref qhl16, .ref qhi17, .ref qhs18])), (qhl16, .inl (cJ, 32, .inr (.inl (fun _ => 0)))), (qhi17, .inl (cI, 128, .inl (fun _ => 0))), (qhs18, .inl (cI, 128, .inl (fun _ => 0)))]) (z_runI (rest := [.ref qo9, .ref o]) hx hb hml hown hts hK hN (c_Layout_init l D cI cJ qo9 ) kk_DeltaRows_35 (zP.cut hP [9] rfl) (hD.sub [9] (by decide) rfl) rfl hl.1 rfl (Nat.le_of_ble_eq_true rfl) d_DeltaRows_init_60 (by decide) (by decide)) hP hD hS hA [9] [0, 1, 2, 3, 4, 5, 6, 7, 8] rfl rfl (by decide) (by decide) (fun rv w1 H locs hq hP hD hS => ?_)
  obtain ⟨rfl, qhl110, qhi111, qhs112, rfl⟩ := hq
  have hP : va_P D classes [(o, .inr (3, [.ref qa1, .int (nI 0), .ref qo2, .ref qo4, .ref qo5, .null])), (qa1, .inl (cJ, 2000, .inr (.inl (fun _ => 0)))), (qo2, .inr (0, [.ref qhw3, .int (nI 0)])), (qhw3, .inl (cJ, 2500, .inr (.inl (fun _ => 0)))), (qo4, .inr (2, [.ref qo2, .int (nI 0), .int (nI 0), .int (-1), .int (nI 0), .long 0])), (qo5, .inr (1, [.int (nI 0), .ref qhl16, .ref qhi17, .ref qhs18])), (qhl16, .inl (cJ, 32, .inr (.inl (fun _ => 0)))), (qhi17, .inl (cI, 128, .inl (fun _ => 0))), (qhs18, .inl (cI, 128, .inl (fun _ => 0))), (qo9, .inr (1, [.int (nI 0), .ref qhl110, .ref qhi111, .ref qhs112])), (qhl110, .inl (cJ, 32, .inr (.inl (fun _ => 0)))), (qhi111, .inl (cI, 128, .inl (fun _ => 0))), (qhs112, .inl (cI, 128, .inl (fun _ => 0)))] H := hP
  have hD : va_D A [(o, .inr (3, [.ref qa1, .int (nI 0), .ref qo2, .ref qo4, .ref qo5, .null])), (qa1, .inl (cJ, 2000, .inr (.inl (fun _ => 0)))), (qo2, .inr (0, [.ref qhw3, .int (nI 0)])), (qhw3, .inl (cJ, 2500, .inr (.inl (fun _ => 0)))), (qo4, .inr (2, [.ref qo2, .int (nI 0), .int (nI 0), .int (-1), .int (nI 0), .long 0])), (qo5, .inr (1, [.int (nI 0), .ref qhl16, .ref qhi17, .ref qhs18])), (qhl16, .inl (cJ, 32, .inr (.inl (fun _ => 0)))), (qhi17, .inl (cI, 128, .inl (fun _ => 0))), (qhs18, .inl (cI, 128, .inl (fun _ => 0))), (qo9, .inr (1, [.int (nI 0), .ref qhl110, .ref qhi111, .ref qhs112])), (qhl110, .inl (cJ, 32, .inr (.inl (fun _ => 0)))), (qhi111, .inl (cI, 128, .inl (fun _ => 0))), (qhs112, .inl (cI, 128, .inl (fun _ => 0)))] := hD
  refine W.eq (g2 := F0 m 63 ls [.ref qo9, .ref o]) rfl ?_
  refine p_DeltaRows_40 (w2 := [(o, .inr (3, [.ref qa1, .int (nI 0), .ref qo2, .ref qo4, .ref qo5, .ref qo9])), (qa1, .inl (cJ, 2000, .inr (.inl (fun _ => 0)))), (qo2, .inr (0, [.ref qhw3, .int (nI 0)])), (qhw3, .inl (cJ, 2500, .inr (.inl (fun _ => 0)))), (qo4, .inr (2, [.ref qo2, .int (nI 0), .int (nI 0), .int (-1), .int (nI 0), .long 0])), (qo5, .inr (1, [.int (nI 0), .ref qhl16, .ref qhi17, .ref qhs18])), (qhl16, .inl (cJ, 32, .inr (.inl (fun _ => 0)))), (qhi17, .inl (cI, 128, .inl (fun _ => 0))), (qhs18, .inl (cI, 128, .inl (fun _ => 0))), (qo9, .inr (1, [.int (nI 0), .ref qhl110, .ref qhi111, .ref qhs112])), (qhl110, .inl (cJ, 32, .inr (.inl (fun _ => 0)))), (qhi111, .inl (cI, 128, .inl (fun _ => 0))), (qhs112, .inl (cI, 128, .inl (fun _ => 0)))]) hx hb hts hown hK hP hD hS 0 rfl (Nat.le_of_ble_eq_true rfl) rfl d_DeltaRows_init_63 (fun H locs hP hD hS => ?_)
  have hPD := zP.perm (w2 := [(o, .inr (3, [.ref qa1, .int (nI 0), .ref qo2, .ref qo4, .ref qo5, .ref qo9])), (qa1, .inl (cJ, 2000, .inr (.inl (fun _ => 0)))), (qo2, .inr (0, [.ref qhw3, .int (nI 0)])), (qhw3, .inl (cJ, 2500, .inr (.inl (fun _ => 0)))), (qo4, .inr (2, [.ref qo2, .int (nI 0), .int (nI 0), .int (-1), .int (nI 0), .long 0])), (qo5, .inr (1, [.int (nI 0), .ref qhl16, .ref qhi17, .ref qhs18])), (qhl16, .inl (cJ, 32, .inr (.inl (fun _ => 0)))), (qhi17, .inl (cI, 128, .inl (fun _ => 0))), (qhs18, .inl (cI, 128, .inl (fun _ => 0))), (qo9, .inr (1, [.int (nI 0), .ref qhl110, .ref qhi111, .ref qhs112])), (qhl110, .inl (cJ, 32, .inr (.inl (fun _ => 0)))), (qhi111, .inl (cI, 128, .inl (fun _ => 0))), (qhs112, .inl (cI, 128, .inl (fun _ => 0)))]) hP hD [0, 1, 2, 3, 4, 5, 6, 7, 8, 9, 10, 11, 12] (by decide) rfl
  exact z_vret hx hb hr hlocks hS hPD.1 hPD.2 ⟨rfl, qa1, qo2, qo4, qo5, qo9, qhw3, qhl16, qhi17, qhs18, qhl110, qhi111, qhs112, rfl⟩ d_DeltaRows_init_66

set_option maxHeartbeats 4000000 in
set_option maxRecDepth 100000 in
theorem c_DeltaRows_read (l : Launch) (D : va_G) (cI cJ : ClassId) (o : Nat) (ro : Nat) (bo : Nat) (so : Nat) (la : Nat) (lb : Nat) (rc : Nat) (rq : Nat → Int64) (hw : Nat) (b : BB) (z : SS) (to : Nat) (fi : Int64) (hl1 : Nat) (hi1 : Nat) (hs1 : Nat) (bc : Nat) (le : Nat → Int64) (wi : Nat → Int32) (st : Nat → Int32) (hl2 : Nat) (hi2 : Nat) (hs2 : Nat) (bc2 : Nat) (y : (Nat → Int64) × (Nat → Int32) × (Nat → Int32)) (hu : b.2 ≤ 20000) : Ct l D (zT cI cJ) y_DeltaRows_read b_DeltaRows_read 2 (some .int) 7 162 0 0 [.ref o] [(o, .inr (3, [.ref ro, .int (nI rc), .ref bo, .ref so, .ref la, .ref lb])), (ro, .inl (cJ, 2000, .inr (.inl rq))), (bo, .inr (0, [.ref hw, .int (nI b.2)])), (hw, .inl (cJ, 2500, .inr (.inl b.1))), (so, .inr (2, [.ref bo, .int (nI z.1), .int (nI z.2.1), .int z.2.2, .int (nI to), .long fi])), (la, .inr (1, [.int (nI bc), .ref hl1, .ref hi1, .ref hs1])), (hl1, .inl (cJ, 32, .inr (.inl le))), (hi1, .inl (cI, 128, .inl wi)), (hs1, .inl (cI, 128, .inl st)), (lb, .inr (1, [.int (nI bc2), .ref hl2, .ref hi2, .ref hs2])), (hl2, .inl (cJ, 32, .inr (.inl y.1))), (hi2, .inl (cI, 128, .inl y.2.1)), (hs2, .inl (cI, 128, .inl y.2.2))] (zEq (some (.int (nI ((p_end b (p_look b y).1).2.1)))) (if (p_end b (p_look b y).1).2.1 = 0 then [(o, .inr (3, [.ref ro, .int (nI ((p_lh b p_z0).2.1)), .ref bo, .ref so, .ref lb, .ref la])), (ro, .inl (cJ, 2000, .inr (.inl (p_tr b.1 (p_lh b p_z0).2.1 (p_lh b p_z0).2.2 (p_bf (p_lh b p_z0).2.1) (p_look b y).2.1 (p_look b y).2.2.1 (p_look b y).2.2.2 rq)))), (bo, .inr (0, [.ref hw, .int (nI b.2)])), (hw, .inl (cJ, 2500, .inr (.inl b.1))), (so, .inr (2, [.ref bo, .int (nI ((p_end b (p_look b y).1).1)), .int (nI ((p_end b (p_look b y).1).2.1)), .int ((p_end b (p_look b y).1).2.2), .int (nI ((p_lh b p_z0).2.1)), .long ((p_lh b p_z0).2.2)])), (la, .inr (1, [.int (nI bc), .ref hl1, .ref hi1, .ref hs1])), (hl1, .inl (cJ, 32, .inr (.inl le))), (hi1, .inl (cI, 128, .inl wi)), (hs1, .inl (cI, 128, .inl st)), (lb, .inr (1, [.int (nI (p_bf (p_lh b p_z0).2.1)), .ref hl2, .ref hi2, .ref hs2])), (hl2, .inl (cJ, 32, .inr (.inl ((p_look b y).2.1)))), (hi2, .inl (cI, 128, .inl ((p_look b y).2.2.1))), (hs2, .inl (cI, 128, .inl ((p_look b y).2.2.2)))] else [(o, .inr (3, [.ref ro, .int (nI rc), .ref bo, .ref so, .ref la, .ref lb])), (ro, .inl (cJ, 2000, .inr (.inl rq))), (bo, .inr (0, [.ref hw, .int (nI b.2)])), (hw, .inl (cJ, 2500, .inr (.inl b.1))), (so, .inr (2, [.ref bo, .int (nI ((p_end b (p_look b y).1).1)), .int (nI ((p_end b (p_look b y).1).2.1)), .int ((p_end b (p_look b y).1).2.2), .int (nI ((p_lh b p_z0).2.1)), .long ((p_lh b p_z0).2.2)])), (la, .inr (1, [.int (nI bc), .ref hl1, .ref hi1, .ref hs1])), (hl1, .inl (cJ, 32, .inr (.inl le))), (hi1, .inl (cI, 128, .inl wi)), (hs1, .inl (cI, 128, .inl st)), (lb, .inr (1, [.int (nI (p_bf (p_lh b p_z0).2.1)), .ref hl2, .ref hi2, .ref hs2])), (hl2, .inl (cJ, 32, .inr (.inl ((p_look b y).2.1)))), (hi2, .inl (cI, 128, .inl ((p_look b y).2.2.1))), (hs2, .inl (cI, 128, .inl ((p_look b y).2.2.2)))])) := by
  refine Ct.ofW (by decide) (Nat.le_of_ble_eq_true rfl) ?_
  intro p e s m below meth c A ls C0 hP hD hS hl
  obtain ⟨hx, hb, hml, hown, hts, hK, hN, hr, hlocks, hA, hnm⟩ := C0
  have hl : lv_has ls 2 [(0, .ref o)] := hl
  have hown : s.vm.findClass R_DeltaRows = some m.cls := hown
  have hE := p_end_f (b := b) (y := y)
  refine lv_aload_n hx hb d_DeltaRows_read_0 rfl (lv_at hl 0 rfl) ?_
  refine g_DeltaRows_29 hx hb hts hown hK hP 0 rfl rfl d_DeltaRows_read_1 ?_
  refine lv_aload_n hx hb d_DeltaRows_read_4 rfl (lv_at hl 0 rfl) ?_
  refine g_DeltaRows_40 hx hb hts hown hK hP 0 rfl rfl d_DeltaRows_read_5 ?_
  refine z_callEv (wr := [(o, .inr (3, [.ref ro, .int (nI rc), .ref bo, .ref so, .ref la, .ref lb])), (ro, .inl (cJ, 2000, .inr (.inl rq))), (la, .inr (1, [.int (nI bc), .ref hl1, .ref hi1, .ref hs1])), (hl1, .inl (cJ, 32, .inr (.inl le))), (hi1, .inl (cI, 128, .inl wi)), (hs1, .inl (cI, 128, .inl st))]) (w2 := [(o, .inr (3, [.ref ro, .int (nI rc), .ref bo, .ref so, .ref la, .ref lb])), (ro, .inl (cJ, 2000, .inr (.inl rq))), (bo, .inr (0, [.ref hw, .int (nI b.2)])), (hw, .inl (cJ, 2500, .inr (.inl b.1))), (so, .inr (2, [.ref bo, .int (nI ((p_end b (p_look b y).1).1)), .int (nI ((p_end b (p_look b y).1).2.1)), .int ((p_end b (p_look b y).1).2.2), .int (nI ((p_lh b p_z0).2.1)), .long ((p_lh b p_z0).2.2)])), (la, .inr (1, [.int (nI bc), .ref hl1, .ref hi1, .ref hs1])), (hl1, .inl (cJ, 32, .inr (.inl le))), (hi1, .inl (cI, 128, .inl wi)), (hs1, .inl (cI, 128, .inl st)), (lb, .inr (1, [.int (nI (p_bf (p_lh b p_z0).2.1)), .ref hl2, .ref hi2, .ref hs2])), (hl2, .inl (cJ, 32, .inr (.inl ((p_look b y).2.1)))), (hi2, .inl (cI, 128, .inl ((p_look b y).2.2.1))), (hs2, .inl (cI, 128, .inl ((p_look b y).2.2.2)))]) (z_runV (rest := []) hx hb hml hown hts hK hN (c_Scan_lookThrough l D cI cJ so bo to fi hw b lb hl2 hi2 hs2 bc2 z y (by (try dsimp only); omega)) kk_DeltaRows_68 (zP.cut hP [4, 2, 3, 9, 10, 11, 12] rfl) (hD.sub [4, 2, 3, 9, 10, 11, 12] (by decide) rfl) 0 rfl rfl rfl hl.1 rfl (Nat.le_of_ble_eq_true rfl) d_DeltaRows_read_8 (by decide) (by decide)) hP hD hS hA [4, 2, 3, 9, 10, 11, 12] [0, 1, 5, 6, 7, 8] [0, 1, 7, 8, 6, 2, 3, 4, 5, 9, 10, 11, 12] rfl rfl (by decide) (by decide) (by decide) rfl (fun H locs hP hD hS => ?_)
  refine lv_aload_n hx hb d_DeltaRows_read_11 rfl (lv_at hl 0 rfl) ?_
  refine g_DeltaRows_29 hx hb hts hown hK hP 0 rfl rfl d_DeltaRows_read_12 ?_
  refine g_DeltaRows_72 hx hb hts hown hK hP 4 rfl rfl d_DeltaRows_read_15 ?_
  refine z0_ne (a := (p_end b (p_look b y).1).2.1) (by omega) hx hb d_DeltaRows_read_18 (tgt := 43) (by decide) (fun c_18 => ?_) (fun c_18 => ?_)
  · skip
    refine lv_aload_n hx hb d_DeltaRows_read_43 rfl (lv_at hl 0 rfl) ?_
    refine g_DeltaRows_29 hx hb hts hown hK hP 0 rfl rfl d_DeltaRows_read_44 ?_
    refine g_DeltaRows_72 hx hb hts hown hK hP 4 rfl rfl d_DeltaRows_read_47 ?_
    exact z_iret hx hb hr hlocks hS hP hD ⟨rfl, by first | (rw [if_pos c_18]) | (rw [if_neg (by omega)])⟩ d_DeltaRows_read_50
  · skip
    have hL := p_look_ok hu c_18
    have h2 := p_lh_to (b := b) (z := p_z0)
    have h3 := p_bf_le h2
    refine lv_aload_n hx hb d_DeltaRows_read_21 rfl (lv_at hl 0 rfl) ?_
    refine g_DeltaRows_40 hx hb hts hown hK hP 0 rfl rfl d_DeltaRows_read_22 ?_
    refine lv_astore_n (lv' := [(1, .ref lb), (0, .ref o)]) hx hb d_DeltaRows_read_25 rfl hl (by decide) rfl (fun ls hl => ?_)
    refine lv_aload_n hx hb d_DeltaRows_read_26 rfl (lv_at hl 1 rfl) ?_
    refine lv_aload_n hx hb d_DeltaRows_read_27 rfl (lv_at hl 1 rfl) ?_
    refine g_DeltaRows_36 hx hb hts hown hK hP 0 rfl rfl d_DeltaRows_read_28 ?_
    refine p_DeltaRows_40 (w2 := [(o, .inr (3, [.ref ro, .int (nI rc), .ref bo, .ref so, .ref la, .ref la])), (ro, .inl (cJ, 2000, .inr (.inl rq))), (bo, .inr (0, [.ref hw, .int (nI b.2)])), (hw, .inl (cJ, 2500, .inr (.inl b.1))), (so, .inr (2, [.ref bo, .int (nI ((p_end b (p_look b y).1).1)), .int (nI ((p_end b (p_look b y).1).2.1)), .int ((p_end b (p_look b y).1).2.2), .int (nI ((p_lh b p_z0).2.1)), .long ((p_lh b p_z0).2.2)])), (la, .inr (1, [.int (nI bc), .ref hl1, .ref hi1, .ref hs1])), (hl1, .inl (cJ, 32, .inr (.inl le))), (hi1, .inl (cI, 128, .inl wi)), (hs1, .inl (cI, 128, .inl st)), (lb, .inr (1, [.int (nI (p_bf (p_lh b p_z0).2.1)), .ref hl2, .ref hi2, .ref hs2])), (hl2, .inl (cJ, 32, .inr (.inl ((p_look b y).2.1)))), (hi2, .inl (cI, 128, .inl ((p_look b y).2.2.1))), (hs2, .inl (cI, 128, .inl ((p_look b y).2.2.2)))]) hx hb hts hown hK hP hD hS 0 rfl (Nat.le_of_ble_eq_true rfl) rfl d_DeltaRows_read_31 (fun H locs hP hD hS => ?_)
    refine lv_aload_n hx hb d_DeltaRows_read_34 rfl (lv_at hl 1 rfl) ?_
    refine lv_aload_n hx hb d_DeltaRows_read_35 rfl (lv_at hl 0 rfl) ?_
    refine p_DeltaRows_36 (w2 := [(o, .inr (3, [.ref ro, .int (nI rc), .ref bo, .ref so, .ref lb, .ref la])), (ro, .inl (cJ, 2000, .inr (.inl rq))), (bo, .inr (0, [.ref hw, .int (nI b.2)])), (hw, .inl (cJ, 2500, .inr (.inl b.1))), (so, .inr (2, [.ref bo, .int (nI ((p_end b (p_look b y).1).1)), .int (nI ((p_end b (p_look b y).1).2.1)), .int ((p_end b (p_look b y).1).2.2), .int (nI ((p_lh b p_z0).2.1)), .long ((p_lh b p_z0).2.2)])), (la, .inr (1, [.int (nI bc), .ref hl1, .ref hi1, .ref hs1])), (hl1, .inl (cJ, 32, .inr (.inl le))), (hi1, .inl (cI, 128, .inl wi)), (hs1, .inl (cI, 128, .inl st)), (lb, .inr (1, [.int (nI (p_bf (p_lh b p_z0).2.1)), .ref hl2, .ref hi2, .ref hs2])), (hl2, .inl (cJ, 32, .inr (.inl ((p_look b y).2.1)))), (hi2, .inl (cI, 128, .inl ((p_look b y).2.2.1))), (hs2, .inl (cI, 128, .inl ((p_look b y).2.2.2)))]) hx hb hts hown hK hP hD hS 0 rfl (Nat.le_of_ble_eq_true rfl) rfl d_DeltaRows_read_36 (fun H locs hP hD hS => ?_)
    refine lv_aload_n hx hb d_DeltaRows_read_39 rfl (lv_at hl 1 rfl) ?_
    refine z_callEv (wr := [(la, .inr (1, [.int (nI bc), .ref hl1, .ref hi1, .ref hs1])), (hl1, .inl (cJ, 32, .inr (.inl le))), (hi1, .inl (cI, 128, .inl wi)), (hs1, .inl (cI, 128, .inl st))]) (w2 := [(o, .inr (3, [.ref ro, .int (nI ((p_lh b p_z0).2.1)), .ref bo, .ref so, .ref lb, .ref la])), (ro, .inl (cJ, 2000, .inr (.inl (p_tr b.1 ((p_lh b p_z0).2.1) ((p_lh b p_z0).2.2) (p_bf (p_lh b p_z0).2.1) ((p_look b y).2.1) ((p_look b y).2.2.1) ((p_look b y).2.2.2) rq)))), (bo, .inr (0, [.ref hw, .int (nI b.2)])), (hw, .inl (cJ, 2500, .inr (.inl b.1))), (so, .inr (2, [.ref bo, .int (nI ((p_end b (p_look b y).1).1)), .int (nI ((p_end b (p_look b y).1).2.1)), .int ((p_end b (p_look b y).1).2.2), .int (nI ((p_lh b p_z0).2.1)), .long ((p_lh b p_z0).2.2)])), (la, .inr (1, [.int (nI bc), .ref hl1, .ref hi1, .ref hs1])), (hl1, .inl (cJ, 32, .inr (.inl le))), (hi1, .inl (cI, 128, .inl wi)), (hs1, .inl (cI, 128, .inl st)), (lb, .inr (1, [.int (nI (p_bf (p_lh b p_z0).2.1)), .ref hl2, .ref hi2, .ref hs2])), (hl2, .inl (cJ, 32, .inr (.inl ((p_look b y).2.1)))), (hi2, .inl (cI, 128, .inl ((p_look b y).2.2.1))), (hs2, .inl (cI, 128, .inl ((p_look b y).2.2.2)))]) (z_runV (rest := []) hx hb hml hown hts hK hN (c_DeltaRows_takeRow l D cI cJ o ro bo so lb la rc rq hl2 hi2 hs2 hw b (p_bf (p_lh b p_z0).2.1) ((p_look b y).2.1) ((p_look b y).2.2.1) ((p_look b y).2.2.2) ((p_end b (p_look b y).1).1) ((p_end b (p_look b y).1).2.1) ((p_end b (p_look b y).1).2.2) ((p_lh b p_z0).2.1) ((p_lh b p_z0).2.2) h2 h3 hL) kk_DeltaRows_75 (zP.cut hP [0, 1, 2, 3, 4, 9, 10, 11, 12] rfl) (hD.sub [0, 1, 2, 3, 4, 9, 10, 11, 12] (by decide) rfl) 0 rfl rfl rfl hl.1 rfl (Nat.le_of_ble_eq_true rfl) d_DeltaRows_read_40 (by decide) (by decide)) hP hD hS hA [0, 1, 2, 3, 4, 9, 10, 11, 12] [5, 6, 7, 8] [4, 5, 6, 7, 8, 0, 1, 2, 3, 9, 10, 11, 12] rfl rfl (by decide) (by decide) (by decide) rfl (fun H locs hP hD hS => ?_)
    refine lv_aload_n hx hb d_DeltaRows_read_43 rfl (lv_at hl 1 rfl) ?_
    refine g_DeltaRows_29 hx hb hts hown hK hP 0 rfl rfl d_DeltaRows_read_44 ?_
    refine g_DeltaRows_72 hx hb hts hown hK hP 4 rfl rfl d_DeltaRows_read_47 ?_
    exact z_iret hx hb hr hlocks hS hP hD ⟨rfl, by first | (rw [if_pos c_18]) | (rw [if_neg (by omega)])⟩ d_DeltaRows_read_50
end
section
/-! what the reference's small methods answer -/
abbrev RB : Type := (Nat → Int32) × Nat
def r_add (b : RB) (v : Int32) : RB := (upd b.1 b.2 (nI (low8 v)), b.2 + 1)
theorem r_low (v : Int32) : v &&& nI 255 = nI (low8 v) := pk_and v (m := nI 255) 8 (by decide +kernel)
def r_app (b : RB) (v : Int32) : RB := if b.2 < 20000 then r_add b v else b
def r_byteAt (b : RB) (k : Int32) : Int32 := if p_has b.2 k = true then b.1 k.toNatClampNeg else (-1)
def r_setByte (b : RB) (k v : Int32) : Nat → Int32 := if p_has b.2 k = true then upd b.1 k.toNatClampNeg (nI (low8 v)) else b.1
theorem r_lt4 {k : Int32} (h : k ≤ nI 3) : ¬ nI 4 ≤ k := fun h2 => absurd (Int32.le_trans h2 h) (by decide)
theorem r_ge4 {k : Int32} (h : ¬ k ≤ nI 3) : nI 4 ≤ k := by
  rw [Int32.le_iff_toInt_le] at h ⊢
  rw [show (nI 3).toInt = 3 by decide +kernel] at h
  rw [show (nI 4).toInt = 4 by decide +kernel]
  omega
theorem r_part {bc : Nat} {f : Nat → Int32} {j i : Nat} (hj : j < bc) (hi : i < 4) (hb : bc < 1000000) : p_part bc f (nI j) (nI i) = f (4 * j + i) := by
  unfold p_part p_hp
  rw [if_pos (decide_eq_true ⟨by rw [p_has_nI (by omega) (by omega)]; exact decide_eq_true hj, nI_pos (by omega), fun z => absurd ((nI_leI (by decide) (by omega)).mp z) (by omega)⟩), nI_clamp (by omega), nI_clamp (by omega), Nat.mul_comm 4 j]
theorem r_part0 {bc : Nat} {f : Nat → Int32} {k p : Int32} (h : k < 0 ∨ nI bc ≤ k ∨ p < 0 ∨ ¬ p ≤ nI 3) : p_part bc f k p = (-1) := by
  unfold p_part
  rw [if_neg (fun z => ?_)]
  have h1 := of_decide_eq_true z
  have h2 := of_decide_eq_true h1.1
  rcases h with q | q | q | q
  · exact h2.1 q
  · exact h2.2 q
  · exact h1.2.1 q
  · exact h1.2.2 (r_ge4 q)
def r_vnl (v : Int64) : Nat → Nat → Nat
  | 0, n => n
  | f + 1, n => if zushr v (nI (7 * n)) = 0 then n else r_vnl v f (n + 1)
/-- how many bytes a varint has -/
def r_vn (v : Int64) : Nat := r_vnl v 9 1
def r_avb (v : Int64) (n k : Nat) : Int32 := (zushr v (nI (7 * k)) &&& 127).toInt32 + (if k < n - 1 then nI 128 else nI 0)
def r_avl (v : Int64) (n : Nat) : Nat → RB → RB
  | 0, b => b
  | k + 1, b => r_add (r_avl v n k b) (r_avb v n k)
def r_av (b : RB) (v : Int64) : RB := r_avl v (r_vn v) (r_vn v) b
theorem r_vnl_in (v : Int64) : ∀ (f n : Nat), n ≤ r_vnl v f n ∧ r_vnl v f n ≤ n + f
  | 0, n => ⟨Nat.le_refl _, Nat.le_refl _⟩
  | f + 1, n => by
    unfold r_vnl
    by_cases h : zushr v (nI (7 * n)) = 0
    · rw [if_pos h]; omega
    · rw [if_neg h]
      have := r_vnl_in v f (n + 1)
      omega
theorem r_vn_in (v : Int64) : 1 ≤ r_vn v ∧ r_vn v ≤ 10 := by
  have := r_vnl_in v 9 1
  unfold r_vn
  omega
theorem r_avl_sz (v : Int64) (n : Nat) (b : RB) : ∀ k, (r_avl v n k b).2 = b.2 + k
  | 0 => rfl
  | k + 1 => by
    show (r_avl v n k b).2 + 1 = _
    rw [r_avl_sz v n b k]; omega
theorem r_av_sz (v : Int64) (b : RB) : (r_av b v).2 = b.2 + r_vn v := r_avl_sz v _ b _
def r_zig (v : Int64) : Int64 := if 0 ≤ v then 2 * v else (-2) * v - 1
def r_unzig (z : Int64) : Int64 := if z &&& 1 = 0 then zushr z (nI 1) else -(zushr z (nI 1)) - 1
def r_ip (many p : Nat) : Nat := min (many - 16 * p) 16
def r_fail (z : SS) (ki : Nat) (wh : Int32) : SS := if z.2.1 = 0 then (z.1, ki, wh) else z
def r_nV (b : RB) (z : SS) : Nat := if z.1 = b.2 then 0 else cl b.1 z.1
def r_nS (b : RB) (z : SS) : SS := if z.1 = b.2 then r_fail z 1 (nI b.2) else (z.1 + 1, z.2)
/-- the reference's bytes are bytes -/
def r_by (f : Nat → Int32) : Prop := ∀ k, k < 20000 → f k = nI (cl f k) ∧ cl f k < 256
theorem r_nV_lt {b : RB} {z : SS} (hB : r_by b.1) (hz : z.1 ≤ b.2) (hu : b.2 ≤ 20000) : r_nV b z < 256 := by
  unfold r_nV
  by_cases h : z.1 = b.2
  · rw [if_pos h]; decide
  · rw [if_neg h]; exact (hB z.1 (by omega)).2
theorem r_fail_1 (z : SS) (ki : Nat) (wh : Int32) : (r_fail z ki wh).1 = z.1 := by
  unfold r_fail
  by_cases h : z.2.1 = 0
  · rw [if_pos h]
  · rw [if_neg h]
theorem r_fail_f {z : SS} {ki : Nat} {wh : Int32} (hk : ki < 1000000) (h : z.2.1 < 1000000) : (r_fail z ki wh).2.1 < 1000000 := by
  unfold r_fail
  by_cases h : z.2.1 = 0
  · rw [if_pos h]; exact hk
  · rw [if_neg h]; assumption
def r_ok (b : RB) (z : SS) : Prop := z.1 ≤ b.2 ∧ z.2.1 < 1000000
theorem r_ok_n {b : RB} {z : SS} (h : r_ok b z) : r_ok b (r_nS b z) := by
  obtain ⟨h1, h2⟩ := h
  unfold r_nS
  by_cases a : z.1 = b.2
  · rw [if_pos a]; exact ⟨by rw [r_fail_1]; exact h1, r_fail_f (by decide) h2⟩
  · rw [if_neg a]; exact ⟨by show z.1 + 1 ≤ b.2; omega, h2⟩
theorem r_ok_fail {b : RB} {z : SS} {ki : Nat} {wh : Int32} (hk : ki < 1000000) (h : r_ok b z) : r_ok b (r_fail z ki wh) := ⟨by rw [r_fail_1]; exact h.1, r_fail_f hk h.2⟩
def r_vv (v : Int64) (x k : Nat) : Int64 := v ||| zshl ((nI x &&& nI 127).toInt64) (nI (7 * k))
def r_vl (b : RB) (beg : Nat) : Nat → Nat → Int64 → SS → Int64 × SS
  | 0, _, _, z => (0, z)
  | f + 1, k, v, z =>
    if z.2.1 = 0 then
      (if (r_nS b z).2.1 = 0 then
        (if (k = 9 ∧ 1 < r_nV b z) ∨ (0 < k ∧ r_nV b z = 0) then (0, r_fail (r_nS b z) 2 (nI beg))
         else if r_nV b z < 128 then (r_vv v (r_nV b z) k, r_nS b z)
         else r_vl b beg f (k + 1) (r_vv v (r_nV b z) k) (r_nS b z))
       else (0, r_nS b z))
    else (0, z)
def r_v (b : RB) (z : SS) : Int64 × SS := r_vl b z.1 10 0 0 z
theorem r_ok_vl {b : RB} {beg : Nat} : ∀ (f k : Nat) (v : Int64) (z : SS), r_ok b z → r_ok b (r_vl b beg f k v z).2
  | 0, _, _, _, h => h
  | f + 1, k, v, z, h => by
    have h1 := r_ok_n h
    unfold r_vl
    by_cases a0 : z.2.1 = 0
    · rw [if_pos a0]
      by_cases a1 : (r_nS b z).2.1 = 0
      · rw [if_pos a1]
        by_cases a2 : (k = 9 ∧ 1 < r_nV b z) ∨ (0 < k ∧ r_nV b z = 0)
        · rw [if_pos a2]; exact r_ok_fail (by decide) h1
        · rw [if_neg a2]
          by_cases a3 : r_nV b z < 128
          · rw [if_pos a3]; exact h1
          · rw [if_neg a3]; exact r_ok_vl f _ _ _ h1
      · rw [if_neg a1]; exact h1
    · rw [if_neg a0]; exact h
theorem r_ok_v {b : RB} {z : SS} (h : r_ok b z) : r_ok b (r_v b z).2 := r_ok_vl _ _ _ _ h
end
section
set_option maxHeartbeats 4000000 in
set_option maxRecDepth 100000 in
theorem c_Model_put (l : Launch) (D : va_G) (cI cJ : ClassId) (g : Nat) (mr : Nat) (ms : Nat) (mb : Nat) (ml : Nat) (mn : Nat) (mw : Nat) (mt : Nat) (mv : Nat) (mu : Nat) (cd : Int32) (n0 : Nat) (sz : Nat) (bl : Nat) (z : SS) (rq : Nat → Int64) (v : Int64) (hn0 : n0 ≤ 2000) : Ct l D (zT cI cJ) y_Model_put b_Model_put 3 (some .boolean) 0 0 0 0 [.ref g, .long v] [(g, .inr (4, [.int cd, .ref mr, .ref ms, .int (nI n0), .ref mb, .int (nI sz), .int z.2.2, .ref ml, .ref mn, .ref mw, .ref mt, .ref mv, .ref mu, .int (nI bl), .int (nI z.1), .int (nI z.2.1)])), (mr, .inl (cJ, 2000, .inr (.inl rq)))] (zEq (some (.int (zb (decide (n0 < 2000))))) [(g, .inr (4, [.int (nI 0), .ref mr, .ref ms, .int (nI (p_putC n0)), .ref mb, .int (nI sz), .int z.2.2, .ref ml, .ref mn, .ref mw, .ref mt, .ref mv, .ref mu, .int (nI bl), .int (nI z.1), .int (nI z.2.1)])), (mr, .inl (cJ, 2000, .inr (.inl (p_putR rq n0 v))))]) := by
  refine Ct.ofW (by decide) (Nat.le_of_ble_eq_true rfl) ?_
  intro p e s m below meth c A ls C0 hP hD hS hl
  obtain ⟨hx, hb, hml, hown, hts, hK, hN, hr, hlocks, hA, hnm⟩ := C0
  have hl : lv_has ls 3 [(0, .ref g), (1, .long v)] := hl
  have hown : s.vm.findClass R_Model = some m.cls := hown
  refine lv_aload_n hx hb d_Model_put_0 rfl (lv_at hl 0 rfl) ?_
  refine lv_iconst (v := nI 0) hx hb d_Model_put_1 (by decide +kernel) ?_
  refine p_Model_42 (w2 := [(g, .inr (4, [.int (nI 0), .ref mr, .ref ms, .int (nI n0), .ref mb, .int (nI sz), .int z.2.2, .ref ml, .ref mn, .ref mw, .ref mt, .ref mv, .ref mu, .int (nI bl), .int (nI z.1), .int (nI z.2.1)])), (mr, .inl (cJ, 2000, .inr (.inl rq)))]) hx hb hts hown hK hP hD hS 0 rfl (Nat.le_of_ble_eq_true rfl) rfl d_Model_put_2 (fun H locs hP hD hS => ?_)
  refine lv_aload_n hx hb d_Model_put_5 rfl (lv_at hl 0 rfl) ?_
  refine g_Model_45 hx hb hts hown hK hP 0 rfl rfl d_Model_put_6 ?_
  refine lv_sipush (v := nI 2000) hx hb d_Model_put_9 (by decide +kernel) ?_
  refine zn_ne (a := n0) (b := 2000) (by omega) (by omega) hx hb d_Model_put_12 (tgt := 17) (by decide) (fun c_12 => ?_) (fun c_12 => ?_)
  · skip
    refine lv_aload_n hx hb d_Model_put_17 rfl (lv_at hl 0 rfl) ?_
    refine g_Model_7 hx hb hts hown hK hP 0 rfl rfl d_Model_put_18 ?_
    refine lv_aload_n hx hb d_Model_put_21 rfl (lv_at hl 0 rfl) ?_
    refine g_Model_45 hx hb hts hown hK hP 0 rfl rfl d_Model_put_22 ?_
    refine lv_lload_n hx hb d_Model_put_25 rfl (lv_at hl 1 rfl) ?_
    refine z_last (w2 := [(g, .inr (4, [.int (nI 0), .ref mr, .ref ms, .int (nI n0), .ref mb, .int (nI sz), .int z.2.2, .ref ml, .ref mn, .ref mw, .ref mt, .ref mv, .ref mu, .int (nI bl), .int (nI z.1), .int (nI z.2.1)])), (mr, .inl (cJ, 2000, .inr (.inl (vp_updL rq n0 v))))]) hx hb hK hP hD hS 1 1 rfl rfl (by omega) (by decide) d_Model_put_26 rfl (fun H locs hP hD hS => ?_)
    refine lv_aload_n hx hb d_Model_put_27 rfl (lv_at hl 0 rfl) ?_
    refine lv_dup hx hb d_Model_put_28 rfl ?_
    refine g_Model_45 hx hb hts hown hK hP 0 rfl rfl d_Model_put_29 ?_
    refine lv_iconst (v := nI 1) hx hb d_Model_put_32 (by decide +kernel) ?_
    refine lv_iadd hx hb d_Model_put_33 (z_i (nI_add n0 1) ?_)
    refine p_Model_45 (w2 := [(g, .inr (4, [.int (nI 0), .ref mr, .ref ms, .int (nI (n0 + 1)), .ref mb, .int (nI sz), .int z.2.2, .ref ml, .ref mn, .ref mw, .ref mt, .ref mv, .ref mu, .int (nI bl), .int (nI z.1), .int (nI z.2.1)])), (mr, .inl (cJ, 2000, .inr (.inl (vp_updL rq n0 v))))]) hx hb hts hown hK hP hD hS 0 rfl (Nat.le_of_ble_eq_true rfl) rfl d_Model_put_34 (fun H locs hP hD hS => ?_)
    refine lv_iconst (v := nI 1) hx hb d_Model_put_37 (by decide +kernel) ?_
    exact z_bret hx hb hr hlocks (Or.inr rfl) hS hP hD ⟨zb_t (decide_eq_true (by omega)), by unfold p_putC p_putR; rw [if_pos (show n0 < 2000 by omega), if_pos (show n0 < 2000 by omega)]⟩ d_Model_put_38
  · skip
    refine lv_iconst (v := nI 0) hx hb d_Model_put_15 (by decide +kernel) ?_
    exact z_bret hx hb hr hlocks (Or.inl rfl) hS hP hD ⟨zb_f (decide_eq_false (by omega)), by unfold p_putC p_putR; rw [if_neg (by omega), if_neg (by omega)]⟩ d_Model_put_16

set_option maxHeartbeats 4000000 in
set_option maxRecDepth 100000 in
theorem c_Model_clear (l : Launch) (D : va_G) (cI cJ : ClassId) (g : Nat) (mr : Nat) (ms : Nat) (mb : Nat) (ml : Nat) (mn : Nat) (mw : Nat) (mt : Nat) (mv : Nat) (mu : Nat) (cd : Int32) (n0 : Nat) (sz : Nat) (bl : Nat) (z : SS)  : Ct l D (zT cI cJ) y_Model_clear b_Model_clear 1 none 0 0 0 0 [.ref g] [(g, .inr (4, [.int cd, .ref mr, .ref ms, .int (nI n0), .ref mb, .int (nI sz), .int z.2.2, .ref ml, .ref mn, .ref mw, .ref mt, .ref mv, .ref mu, .int (nI bl), .int (nI z.1), .int (nI z.2.1)]))] (zEq none [(g, .inr (4, [.int (nI 0), .ref mr, .ref ms, .int (nI 0), .ref mb, .int (nI sz), .int z.2.2, .ref ml, .ref mn, .ref mw, .ref mt, .ref mv, .ref mu, .int (nI bl), .int (nI z.1), .int (nI z.2.1)]))]) := by
  refine Ct.ofW (by decide) (Nat.le_of_ble_eq_true rfl) ?_
  intro p e s m below meth c A ls C0 hP hD hS hl
  obtain ⟨hx, hb, hml, hown, hts, hK, hN, hr, hlocks, hA, hnm⟩ := C0
  have hl : lv_has ls 1 [(0, .ref g)] := hl
  have hown : s.vm.findClass R_Model = some m.cls := hown
  refine lv_aload_n hx hb d_Model_clear_0 rfl (lv_at hl 0 rfl) ?_
  refine lv_iconst (v := nI 0) hx hb d_Model_clear_1 (by decide +kernel) ?_
  refine p_Model_42 (w2 := [(g, .inr (4, [.int (nI 0), .ref mr, .ref ms, .int (nI n0), .ref mb, .int (nI sz), .int z.2.2, .ref ml, .ref mn, .ref mw, .ref mt, .ref mv, .ref mu, .int (nI bl), .int (nI z.1), .int (nI z.2.1)]))]) hx hb hts hown hK hP hD hS 0 rfl (Nat.le_of_ble_eq_true rfl) rfl d_Model_clear_2 (fun H locs hP hD hS => ?_)
  refine lv_aload_n hx hb d_Model_clear_5 rfl (lv_at hl 0 rfl) ?_
  refine lv_iconst (v := nI 0) hx hb d_Model_clear_6 (by decide +kernel) ?_
  refine p_Model_45 (w2 := [(g, .inr (4, [.int (nI 0), .ref mr, .ref ms, .int (nI 0), .ref mb, .int (nI sz), .int z.2.2, .ref ml, .ref mn, .ref mw, .ref mt, .ref mv, .ref mu, .int (nI bl), .int (nI z.1), .int (nI z.2.1)]))]) hx hb hts hown hK hP hD hS 0 rfl (Nat.le_of_ble_eq_true rfl) rfl d_Model_clear_7 (fun H locs hP hD hS => ?_)
  exact z_vret hx hb hr hlocks hS hP hD ⟨rfl, rfl⟩ d_Model_clear_10

set_option maxHeartbeats 4000000 in
set_option maxRecDepth 100000 in
theorem c_Model_count (l : Launch) (D : va_G) (cI cJ : ClassId) (g : Nat) (mr : Nat) (ms : Nat) (mb : Nat) (ml : Nat) (mn : Nat) (mw : Nat) (mt : Nat) (mv : Nat) (mu : Nat) (cd : Int32) (n0 : Nat) (sz : Nat) (bl : Nat) (z : SS)  : Ct l D (zT cI cJ) y_Model_count b_Model_count 1 (some .int) 0 0 0 0 [.ref g] [(g, .inr (4, [.int cd, .ref mr, .ref ms, .int (nI n0), .ref mb, .int (nI sz), .int z.2.2, .ref ml, .ref mn, .ref mw, .ref mt, .ref mv, .ref mu, .int (nI bl), .int (nI z.1), .int (nI z.2.1)]))] (zEq (some (.int (nI n0))) [(g, .inr (4, [.int (nI 0), .ref mr, .ref ms, .int (nI n0), .ref mb, .int (nI sz), .int z.2.2, .ref ml, .ref mn, .ref mw, .ref mt, .ref mv, .ref mu, .int (nI bl), .int (nI z.1), .int (nI z.2.1)]))]) := by
  refine Ct.ofW (by decide) (Nat.le_of_ble_eq_true rfl) ?_
  intro p e s m below meth c A ls C0 hP hD hS hl
  obtain ⟨hx, hb, hml, hown, hts, hK, hN, hr, hlocks, hA, hnm⟩ := C0
  have hl : lv_has ls 1 [(0, .ref g)] := hl
  have hown : s.vm.findClass R_Model = some m.cls := hown
  refine lv_aload_n hx hb d_Model_count_0 rfl (lv_at hl 0 rfl) ?_
  refine lv_iconst (v := nI 0) hx hb d_Model_count_1 (by decide +kernel) ?_
  refine p_Model_42 (w2 := [(g, .inr (4, [.int (nI 0), .ref mr, .ref ms, .int (nI n0), .ref mb, .int (nI sz), .int z.2.2, .ref ml, .ref mn, .ref mw, .ref mt, .ref mv, .ref mu, .int (nI bl), .int (nI z.1), .int (nI z.2.1)]))]) hx hb hts hown hK hP hD hS 0 rfl (Nat.le_of_ble_eq_true rfl) rfl d_Model_count_2 (fun H locs hP hD hS => ?_)
  refine lv_aload_n hx hb d_Model_count_5 rfl (lv_at hl 0 rfl) ?_
  refine g_Model_45 hx hb hts hown hK hP 0 rfl rfl d_Model_count_6 ?_
  exact z_iret hx hb hr hlocks hS hP hD ⟨rfl, rfl⟩ d_Model_count_9

set_option maxHeartbeats 4000000 in
set_option maxRecDepth 100000 in
theorem c_Model_get (l : Launch) (D : va_G) (cI cJ : ClassId) (g : Nat) (mr : Nat) (ms : Nat) (mb : Nat) (ml : Nat) (mn : Nat) (mw : Nat) (mt : Nat) (mv : Nat) (mu : Nat) (cd : Int32) (n0 : Nat) (sz : Nat) (bl : Nat) (z : SS) (rq : Nat → Int64) (k : Int32) (hn0 : n0 ≤ 2000) : Ct l D (zT cI cJ) y_Model_get b_Model_get 2 (some .long) 0 0 0 0 [.ref g, .int k] [(g, .inr (4, [.int cd, .ref mr, .ref ms, .int (nI n0), .ref mb, .int (nI sz), .int z.2.2, .ref ml, .ref mn, .ref mw, .ref mt, .ref mv, .ref mu, .int (nI bl), .int (nI z.1), .int (nI z.2.1)])), (mr, .inl (cJ, 2000, .inr (.inl rq)))] (zEq (some (.long (p_get rq n0 k))) [(g, .inr (4, [.int (nI 0), .ref mr, .ref ms, .int (nI n0), .ref mb, .int (nI sz), .int z.2.2, .ref ml, .ref mn, .ref mw, .ref mt, .ref mv, .ref mu, .int (nI bl), .int (nI z.1), .int (nI z.2.1)])), (mr, .inl (cJ, 2000, .inr (.inl rq)))]) := by
  refine Ct.ofW (by decide) (Nat.le_of_ble_eq_true rfl) ?_
  intro p e s m below meth c A ls C0 hP hD hS hl
  obtain ⟨hx, hb, hml, hown, hts, hK, hN, hr, hlocks, hA, hnm⟩ := C0
  have hl : lv_has ls 2 [(0, .ref g), (1, .int k)] := hl
  have hown : s.vm.findClass R_Model = some m.cls := hown
  refine lv_aload_n hx hb d_Model_get_0 rfl (lv_at hl 0 rfl) ?_
  refine lv_iconst (v := nI 0) hx hb d_Model_get_1 (by decide +kernel) ?_
  refine p_Model_42 (w2 := [(g, .inr (4, [.int (nI 0), .ref mr, .ref ms, .int (nI n0), .ref mb, .int (nI sz), .int z.2.2, .ref ml, .ref mn, .ref mw, .ref mt, .ref mv, .ref mu, .int (nI bl), .int (nI z.1), .int (nI z.2.1)])), (mr, .inl (cJ, 2000, .inr (.inl rq)))]) hx hb hts hown hK hP hD hS 0 rfl (Nat.le_of_ble_eq_true rfl) rfl d_Model_get_2 (fun H locs hP hD hS => ?_)
  refine lv_iload_n hx hb d_Model_get_5 rfl (lv_at hl 1 rfl) ?_
  refine lv_if_lt (tgt := 17) hx hb d_Model_get_6 (by decide) (fun c_6 => ?_) (fun c_6 => ?_)
  · skip
    refine lv_lconst (v := 0) hx hb d_Model_get_17 (by decide +kernel) ?_
    refine lv_goto (tgt := 27) hx hb d_Model_get_18 (by decide) ?_
    exact z_lret hx hb hr hlocks hS hP hD ⟨by unfold p_get; first | rw [if_pos (show p_has n0 (nI j) = true from decide_eq_true ⟨c_6, Int32.not_le.mpr c_14⟩), nI_clamp (by omega)] | rw [if_neg (fun z => by first | exact (of_decide_eq_true z).1 c_6 | exact c_14 (Int32.not_le.mp (of_decide_eq_true z).2))], rfl⟩ d_Model_get_27
  · skip
    refine lv_iload_n hx hb d_Model_get_9 rfl (lv_at hl 1 rfl) ?_
    refine lv_aload_n hx hb d_Model_get_10 rfl (lv_at hl 0 rfl) ?_
    refine g_Model_45 hx hb hts hown hK hP 0 rfl rfl d_Model_get_11 ?_
    refine lv_icmp_lt (tgt := 21) hx hb d_Model_get_14 (by decide) (fun c_14 => ?_) (fun c_14 => ?_)
    · skip
      obtain ⟨j, hj, rfl⟩ := p_has_of (us := n0) (k := k) (by omega) (decide_eq_true ⟨c_6, Int32.not_le.mpr c_14⟩)
      refine lv_aload_n hx hb d_Model_get_21 rfl (lv_at hl 0 rfl) ?_
      refine g_Model_7 hx hb hts hown hK hP 0 rfl rfl d_Model_get_22 ?_
      refine lv_iload_n hx hb d_Model_get_25 rfl (lv_at hl 1 rfl) ?_
      refine z_lald hx hb hK hP 1 1 rfl rfl (by omega) (by decide) d_Model_get_26 ?_
      exact z_lret hx hb hr hlocks hS hP hD ⟨by unfold p_get; first | rw [if_pos (show p_has n0 (nI j) = true from decide_eq_true ⟨c_6, Int32.not_le.mpr c_14⟩), nI_clamp (by omega)] | rw [if_neg (fun z => by first | exact (of_decide_eq_true z).1 c_6 | exact c_14 (Int32.not_le.mp (of_decide_eq_true z).2))], rfl⟩ d_Model_get_27
    · skip
      refine lv_lconst (v := 0) hx hb d_Model_get_17 (by decide +kernel) ?_
      refine lv_goto (tgt := 27) hx hb d_Model_get_18 (by decide) ?_
      exact z_lret hx hb hr hlocks hS hP hD ⟨by unfold p_get; first | rw [if_pos (show p_has n0 (nI j) = true from decide_eq_true ⟨c_6, Int32.not_le.mpr c_14⟩), nI_clamp (by omega)] | rw [if_neg (fun z => by first | exact (of_decide_eq_true z).1 c_6 | exact c_14 (Int32.not_le.mp (of_decide_eq_true z).2))], rfl⟩ d_Model_get_27

set_option maxHeartbeats 4000000 in
set_option maxRecDepth 100000 in
theorem c_Model_place (l : Launch) (D : va_G) (cI cJ : ClassId) (g : Nat) (mr : Nat) (ms : Nat) (mb : Nat) (ml : Nat) (mn : Nat) (mw : Nat) (mt : Nat) (mv : Nat) (mu : Nat) (cd : Int32) (n0 : Nat) (sz : Nat) (bl : Nat) (z : SS)  : Ct l D (zT cI cJ) y_Model_place b_Model_place 1 (some .int) 0 0 0 0 [.ref g] [(g, .inr (4, [.int cd, .ref mr, .ref ms, .int (nI n0), .ref mb, .int (nI sz), .int z.2.2, .ref ml, .ref mn, .ref mw, .ref mt, .ref mv, .ref mu, .int (nI bl), .int (nI z.1), .int (nI z.2.1)]))] (zEq (some (.int z.2.2)) [(g, .inr (4, [.int (nI 0), .ref mr, .ref ms, .int (nI n0), .ref mb, .int (nI sz), .int z.2.2, .ref ml, .ref mn, .ref mw, .ref mt, .ref mv, .ref mu, .int (nI bl), .int (nI z.1), .int (nI z.2.1)]))]) := by
  refine Ct.ofW (by decide) (Nat.le_of_ble_eq_true rfl) ?_
  intro p e s m below meth c A ls C0 hP hD hS hl
  obtain ⟨hx, hb, hml, hown, hts, hK, hN, hr, hlocks, hA, hnm⟩ := C0
  have hl : lv_has ls 1 [(0, .ref g)] := hl
  have hown : s.vm.findClass R_Model = some m.cls := hown
  refine lv_aload_n hx hb d_Model_place_0 rfl (lv_at hl 0 rfl) ?_
  refine lv_iconst (v := nI 0) hx hb d_Model_place_1 (by decide +kernel) ?_
  refine p_Model_42 (w2 := [(g, .inr (4, [.int (nI 0), .ref mr, .ref ms, .int (nI n0), .ref mb, .int (nI sz), .int z.2.2, .ref ml, .ref mn, .ref mw, .ref mt, .ref mv, .ref mu, .int (nI bl), .int (nI z.1), .int (nI z.2.1)]))]) hx hb hts hown hK hP hD hS 0 rfl (Nat.le_of_ble_eq_true rfl) rfl d_Model_place_2 (fun H locs hP hD hS => ?_)
  refine lv_aload_n hx hb d_Model_place_5 rfl (lv_at hl 0 rfl) ?_
  refine g_Model_20 hx hb hts hown hK hP 0 rfl rfl d_Model_place_6 ?_
  exact z_iret hx hb hr hlocks hS hP hD ⟨rfl, rfl⟩ d_Model_place_9

set_option maxHeartbeats 4000000 in
set_option maxRecDepth 100000 in
theorem c_Model_size (l : Launch) (D : va_G) (cI cJ : ClassId) (g : Nat) (mr : Nat) (ms : Nat) (mb : Nat) (ml : Nat) (mn : Nat) (mw : Nat) (mt : Nat) (mv : Nat) (mu : Nat) (cd : Int32) (n0 : Nat) (sz : Nat) (bl : Nat) (z : SS)  : Ct l D (zT cI cJ) y_Model_size b_Model_size 1 (some .int) 0 0 0 0 [.ref g] [(g, .inr (4, [.int cd, .ref mr, .ref ms, .int (nI n0), .ref mb, .int (nI sz), .int z.2.2, .ref ml, .ref mn, .ref mw, .ref mt, .ref mv, .ref mu, .int (nI bl), .int (nI z.1), .int (nI z.2.1)]))] (zEq (some (.int (nI sz))) [(g, .inr (4, [.int (nI 0), .ref mr, .ref ms, .int (nI n0), .ref mb, .int (nI sz), .int z.2.2, .ref ml, .ref mn, .ref mw, .ref mt, .ref mv, .ref mu, .int (nI bl), .int (nI z.1), .int (nI z.2.1)]))]) := by
  refine Ct.ofW (by decide) (Nat.le_of_ble_eq_true rfl) ?_
  intro p e s m below meth c A ls C0 hP hD hS hl
  obtain ⟨hx, hb, hml, hown, hts, hK, hN, hr, hlocks, hA, hnm⟩ := C0
  have hl : lv_has ls 1 [(0, .ref g)] := hl
  have hown : s.vm.findClass R_Model = some m.cls := hown
  refine lv_aload_n hx hb d_Model_size_0 rfl (lv_at hl 0 rfl) ?_
  refine lv_iconst (v := nI 0) hx hb d_Model_size_1 (by decide +kernel) ?_
  refine p_Model_42 (w2 := [(g, .inr (4, [.int (nI 0), .ref mr, .ref ms, .int (nI n0), .ref mb, .int (nI sz), .int z.2.2, .ref ml, .ref mn, .ref mw, .ref mt, .ref mv, .ref mu, .int (nI bl), .int (nI z.1), .int (nI z.2.1)]))]) hx hb hts hown hK hP hD hS 0 rfl (Nat.le_of_ble_eq_true rfl) rfl d_Model_size_2 (fun H locs hP hD hS => ?_)
  refine lv_aload_n hx hb d_Model_size_5 rfl (lv_at hl 0 rfl) ?_
  refine g_Model_48 hx hb hts hown hK hP 0 rfl rfl d_Model_size_6 ?_
  exact z_iret hx hb hr hlocks hS hP hD ⟨rfl, rfl⟩ d_Model_size_9

set_option maxHeartbeats 4000000 in
set_option maxRecDepth 100000 in
theorem c_Model_blocks (l : Launch) (D : va_G) (cI cJ : ClassId) (g : Nat) (mr : Nat) (ms : Nat) (mb : Nat) (ml : Nat) (mn : Nat) (mw : Nat) (mt : Nat) (mv : Nat) (mu : Nat) (cd : Int32) (n0 : Nat) (sz : Nat) (bl : Nat) (z : SS)  : Ct l D (zT cI cJ) y_Model_blocks b_Model_blocks 1 (some .int) 0 0 0 0 [.ref g] [(g, .inr (4, [.int cd, .ref mr, .ref ms, .int (nI n0), .ref mb, .int (nI sz), .int z.2.2, .ref ml, .ref mn, .ref mw, .ref mt, .ref mv, .ref mu, .int (nI bl), .int (nI z.1), .int (nI z.2.1)]))] (zEq (some (.int (nI bl))) [(g, .inr (4, [.int (nI 0), .ref mr, .ref ms, .int (nI n0), .ref mb, .int (nI sz), .int z.2.2, .ref ml, .ref mn, .ref mw, .ref mt, .ref mv, .ref mu, .int (nI bl), .int (nI z.1), .int (nI z.2.1)]))]) := by
  refine Ct.ofW (by decide) (Nat.le_of_ble_eq_true rfl) ?_
  intro p e s m below meth c A ls C0 hP hD hS hl
  obtain ⟨hx, hb, hml, hown, hts, hK, hN, hr, hlocks, hA, hnm⟩ := C0
  have hl : lv_has ls 1 [(0, .ref g)] := hl
  have hown : s.vm.findClass R_Model = some m.cls := hown
  refine lv_aload_n hx hb d_Model_blocks_0 rfl (lv_at hl 0 rfl) ?_
  refine lv_iconst (v := nI 0) hx hb d_Model_blocks_1 (by decide +kernel) ?_
  refine p_Model_42 (w2 := [(g, .inr (4, [.int (nI 0), .ref mr, .ref ms, .int (nI n0), .ref mb, .int (nI sz), .int z.2.2, .ref ml, .ref mn, .ref mw, .ref mt, .ref mv, .ref mu, .int (nI bl), .int (nI z.1), .int (nI z.2.1)]))]) hx hb hts hown hK hP hD hS 0 rfl (Nat.le_of_ble_eq_true rfl) rfl d_Model_blocks_2 (fun H locs hP hD hS => ?_)
  refine lv_aload_n hx hb d_Model_blocks_5 rfl (lv_at hl 0 rfl) ?_
  refine g_Model_61 hx hb hts hown hK hP 0 rfl rfl d_Model_blocks_6 ?_
  exact z_iret hx hb hr hlocks hS hP hD ⟨rfl, rfl⟩ d_Model_blocks_9

set_option maxHeartbeats 4000000 in
set_option maxRecDepth 100000 in
theorem c_Model_byteAt (l : Launch) (D : va_G) (cI cJ : ClassId) (g : Nat) (mr : Nat) (ms : Nat) (mb : Nat) (ml : Nat) (mn : Nat) (mw : Nat) (mt : Nat) (mv : Nat) (mu : Nat) (cd : Int32) (n0 : Nat) (bl : Nat) (z : SS) (b : RB) (k : Int32) (hu : b.2 ≤ 20000) : Ct l D (zT cI cJ) y_Model_byteAt b_Model_byteAt 2 (some .int) 0 0 0 0 [.ref g, .int k] [(g, .inr (4, [.int cd, .ref mr, .ref ms, .int (nI n0), .ref mb, .int (nI b.2), .int z.2.2, .ref ml, .ref mn, .ref mw, .ref mt, .ref mv, .ref mu, .int (nI bl), .int (nI z.1), .int (nI z.2.1)])), (mb, .inl (cI, 20000, .inl b.1))] (zEq (some (.int (r_byteAt b k))) [(g, .inr (4, [.int (nI 0), .ref mr, .ref ms, .int (nI n0), .ref mb, .int (nI b.2), .int z.2.2, .ref ml, .ref mn, .ref mw, .ref mt, .ref mv, .ref mu, .int (nI bl), .int (nI z.1), .int (nI z.2.1)])), (mb, .inl (cI, 20000, .inl b.1))]) := by
  refine Ct.ofW (by decide) (Nat.le_of_ble_eq_true rfl) ?_
  intro p e s m below meth c A ls C0 hP hD hS hl
  obtain ⟨hx, hb, hml, hown, hts, hK, hN, hr, hlocks, hA, hnm⟩ := C0
  have hl : lv_has ls 2 [(0, .ref g), (1, .int k)] := hl
  have hown : s.vm.findClass R_Model = some m.cls := hown
  refine lv_aload_n hx hb d_Model_byteAt_0 rfl (lv_at hl 0 rfl) ?_
  refine lv_iconst (v := nI 0) hx hb d_Model_byteAt_1 (by decide +kernel) ?_
  refine p_Model_42 (w2 := [(g, .inr (4, [.int (nI 0), .ref mr, .ref ms, .int (nI n0), .ref mb, .int (nI b.2), .int z.2.2, .ref ml, .ref mn, .ref mw, .ref mt, .ref mv, .ref mu, .int (nI bl), .int (nI z.1), .int (nI z.2.1)])), (mb, .inl (cI, 20000, .inl b.1))]) hx hb hts hown hK hP hD hS 0 rfl (Nat.le_of_ble_eq_true rfl) rfl d_Model_byteAt_2 (fun H locs hP hD hS => ?_)
  refine lv_iload_n hx hb d_Model_byteAt_5 rfl (lv_at hl 1 rfl) ?_
  refine lv_if_lt (tgt := 17) hx hb d_Model_byteAt_6 (by decide) (fun c_6 => ?_) (fun c_6 => ?_)
  · skip
    refine lv_iconst (v := (-1)) hx hb d_Model_byteAt_17 (by decide +kernel) ?_
    refine lv_goto (tgt := 27) hx hb d_Model_byteAt_18 (by decide) ?_
    exact z_iret hx hb hr hlocks hS hP hD ⟨by unfold r_byteAt; first | rw [if_pos (show p_has b.2 (nI j) = true from decide_eq_true ⟨c_6, Int32.not_le.mpr c_14⟩), nI_clamp (by omega)] | rw [if_neg (fun z => by first | exact (of_decide_eq_true z).1 c_6 | exact c_14 (Int32.not_le.mp (of_decide_eq_true z).2))], rfl⟩ d_Model_byteAt_27
  · skip
    refine lv_iload_n hx hb d_Model_byteAt_9 rfl (lv_at hl 1 rfl) ?_
    refine lv_aload_n hx hb d_Model_byteAt_10 rfl (lv_at hl 0 rfl) ?_
    refine g_Model_48 hx hb hts hown hK hP 0 rfl rfl d_Model_byteAt_11 ?_
    refine lv_icmp_lt (tgt := 21) hx hb d_Model_byteAt_14 (by decide) (fun c_14 => ?_) (fun c_14 => ?_)
    · skip
      obtain ⟨j, hj, rfl⟩ := p_has_of (us := b.2) (k := k) (by omega) (decide_eq_true ⟨c_6, Int32.not_le.mpr c_14⟩)
      refine lv_aload_n hx hb d_Model_byteAt_21 rfl (lv_at hl 0 rfl) ?_
      refine g_Model_16 hx hb hts hown hK hP 0 rfl rfl d_Model_byteAt_22 ?_
      refine lv_iload_n hx hb d_Model_byteAt_25 rfl (lv_at hl 1 rfl) ?_
      refine z_iald hx hb hK hP 1 0 rfl rfl (by omega) (by decide) d_Model_byteAt_26 ?_
      exact z_iret hx hb hr hlocks hS hP hD ⟨by unfold r_byteAt; first | rw [if_pos (show p_has b.2 (nI j) = true from decide_eq_true ⟨c_6, Int32.not_le.mpr c_14⟩), nI_clamp (by omega)] | rw [if_neg (fun z => by first | exact (of_decide_eq_true z).1 c_6 | exact c_14 (Int32.not_le.mp (of_decide_eq_true z).2))], rfl⟩ d_Model_byteAt_27
    · skip
      refine lv_iconst (v := (-1)) hx hb d_Model_byteAt_17 (by decide +kernel) ?_
      refine lv_goto (tgt := 27) hx hb d_Model_byteAt_18 (by decide) ?_
      exact z_iret hx hb hr hlocks hS hP hD ⟨by unfold r_byteAt; first | rw [if_pos (show p_has b.2 (nI j) = true from decide_eq_true ⟨c_6, Int32.not_le.mpr c_14⟩), nI_clamp (by omega)] | rw [if_neg (fun z => by first | exact (of_decide_eq_true z).1 c_6 | exact c_14 (Int32.not_le.mp (of_decide_eq_true z).2))], rfl⟩ d_Model_byteAt_27

set_option maxHeartbeats 4000000 in
set_option maxRecDepth 100000 in
theorem c_Model_setByte (l : Launch) (D : va_G) (cI cJ : ClassId) (g : Nat) (mr : Nat) (ms : Nat) (mb : Nat) (ml : Nat) (mn : Nat) (mw : Nat) (mt : Nat) (mv : Nat) (mu : Nat) (cd : Int32) (n0 : Nat) (bl : Nat) (z : SS) (b : RB) (k : Int32) (v : Int32) (hu : b.2 ≤ 20000) : Ct l D (zT cI cJ) y_Model_setByte b_Model_setByte 3 (some .boolean) 0 0 0 0 [.ref g, .int k, .int v] [(g, .inr (4, [.int cd, .ref mr, .ref ms, .int (nI n0), .ref mb, .int (nI b.2), .int z.2.2, .ref ml, .ref mn, .ref mw, .ref mt, .ref mv, .ref mu, .int (nI bl), .int (nI z.1), .int (nI z.2.1)])), (mb, .inl (cI, 20000, .inl b.1))] (zEq (some (.int (zb (p_has b.2 k)))) [(g, .inr (4, [.int (nI 0), .ref mr, .ref ms, .int (nI n0), .ref mb, .int (nI b.2), .int z.2.2, .ref ml, .ref mn, .ref mw, .ref mt, .ref mv, .ref mu, .int (nI bl), .int (nI z.1), .int (nI z.2.1)])), (mb, .inl (cI, 20000, .inl (r_setByte b k v)))]) := by
  refine Ct.ofW (by decide) (Nat.le_of_ble_eq_true rfl) ?_
  intro p e s m below meth c A ls C0 hP hD hS hl
  obtain ⟨hx, hb, hml, hown, hts, hK, hN, hr, hlocks, hA, hnm⟩ := C0
  have hl : lv_has ls 3 [(0, .ref g), (1, .int k), (2, .int v)] := hl
  have hown : s.vm.findClass R_Model = some m.cls := hown
  refine lv_aload_n hx hb d_Model_setByte_0 rfl (lv_at hl 0 rfl) ?_
  refine lv_iconst (v := nI 0) hx hb d_Model_setByte_1 (by decide +kernel) ?_
  refine p_Model_42 (w2 := [(g, .inr (4, [.int (nI 0), .ref mr, .ref ms, .int (nI n0), .ref mb, .int (nI b.2), .int z.2.2, .ref ml, .ref mn, .ref mw, .ref mt, .ref mv, .ref mu, .int (nI bl), .int (nI z.1), .int (nI z.2.1)])), (mb, .inl (cI, 20000, .inl b.1))]) hx hb hts hown hK hP hD hS 0 rfl (Nat.le_of_ble_eq_true rfl) rfl d_Model_setByte_2 (fun H locs hP hD hS => ?_)
  refine lv_iload_n hx hb d_Model_setByte_5 rfl (lv_at hl 1 rfl) ?_
  refine lv_if_lt (tgt := 17) hx hb d_Model_setByte_6 (by decide) (fun c_6 => ?_) (fun c_6 => ?_)
  · skip
    refine lv_iconst (v := nI 0) hx hb d_Model_setByte_17 (by decide +kernel) ?_
    exact z_bret hx hb hr hlocks (Or.inl rfl) hS hP hD ⟨zb_f (decide_eq_false (fun z => by first | exact z.1 c_6 | exact c_14 (Int32.not_le.mp z.2))), by unfold r_setByte; rw [if_neg (fun z => by first | exact (of_decide_eq_true z).1 c_6 | exact c_14 (Int32.not_le.mp (of_decide_eq_true z).2))]⟩ d_Model_setByte_18
  · skip
    refine lv_iload_n hx hb d_Model_setByte_9 rfl (lv_at hl 1 rfl) ?_
    refine lv_aload_n hx hb d_Model_setByte_10 rfl (lv_at hl 0 rfl) ?_
    refine g_Model_48 hx hb hts hown hK hP 0 rfl rfl d_Model_setByte_11 ?_
    refine lv_icmp_lt (tgt := 19) hx hb d_Model_setByte_14 (by decide) (fun c_14 => ?_) (fun c_14 => ?_)
    · skip
      obtain ⟨j, hj, rfl⟩ := p_has_of (us := b.2) (k := k) (by omega) (decide_eq_true ⟨c_6, Int32.not_le.mpr c_14⟩)
      refine lv_aload_n hx hb d_Model_setByte_19 rfl (lv_at hl 0 rfl) ?_
      refine g_Model_16 hx hb hts hown hK hP 0 rfl rfl d_Model_setByte_20 ?_
      refine lv_iload_n hx hb d_Model_setByte_23 rfl (lv_at hl 1 rfl) ?_
      refine lv_iload_n hx hb d_Model_setByte_24 rfl (lv_at hl 2 rfl) ?_
      refine lv_sipush (v := nI 255) hx hb d_Model_setByte_25 (by decide +kernel) ?_
      refine lv_iand hx hb d_Model_setByte_28 ?_
      refine z_i (r_low v) ?_
      refine z_iast (w2 := [(g, .inr (4, [.int (nI 0), .ref mr, .ref ms, .int (nI n0), .ref mb, .int (nI b.2), .int z.2.2, .ref ml, .ref mn, .ref mw, .ref mt, .ref mv, .ref mu, .int (nI bl), .int (nI z.1), .int (nI z.2.1)])), (mb, .inl (cI, 20000, .inl (upd b.1 j (nI (low8 v)))))]) hx hb hK hP hD hS 1 0 rfl rfl (by omega) (by decide) d_Model_setByte_29 rfl (fun H locs hP hD hS => ?_)
      refine lv_iconst (v := nI 1) hx hb d_Model_setByte_30 (by decide +kernel) ?_
      exact z_bret hx hb hr hlocks (Or.inr rfl) hS hP hD ⟨zb_t (decide_eq_true ⟨c_6, Int32.not_le.mpr c_14⟩), by unfold r_setByte; rw [if_pos (show p_has b.2 (nI j) = true from decide_eq_true ⟨c_6, Int32.not_le.mpr c_14⟩), nI_clamp (by omega)]⟩ d_Model_setByte_31
    · skip
      refine lv_iconst (v := nI 0) hx hb d_Model_setByte_17 (by decide +kernel) ?_
      exact z_bret hx hb hr hlocks (Or.inl rfl) hS hP hD ⟨zb_f (decide_eq_false (fun z => by first | exact z.1 c_6 | exact c_14 (Int32.not_le.mp z.2))), by unfold r_setByte; rw [if_neg (fun z => by first | exact (of_decide_eq_true z).1 c_6 | exact c_14 (Int32.not_le.mp (of_decide_eq_true z).2))]⟩ d_Model_setByte_18

set_option maxHeartbeats 4000000 in
set_option maxRecDepth 100000 in
theorem c_Model_add (l : Launch) (D : va_G) (cI cJ : ClassId) (g : Nat) (mr : Nat) (ms : Nat) (mb : Nat) (ml : Nat) (mn : Nat) (mw : Nat) (mt : Nat) (mv : Nat) (mu : Nat) (cd : Int32) (n0 : Nat) (bl : Nat) (z : SS) (b : RB) (v : Int32) (hu : b.2 < 20000) : Ct l D (zT cI cJ) y_Model_add b_Model_add 2 none 0 0 0 0 [.ref g, .int v] [(g, .inr (4, [.int cd, .ref mr, .ref ms, .int (nI n0), .ref mb, .int (nI b.2), .int z.2.2, .ref ml, .ref mn, .ref mw, .ref mt, .ref mv, .ref mu, .int (nI bl), .int (nI z.1), .int (nI z.2.1)])), (mb, .inl (cI, 20000, .inl b.1))] (zEq none [(g, .inr (4, [.int cd, .ref mr, .ref ms, .int (nI n0), .ref mb, .int (nI ((r_add b v).2)), .int z.2.2, .ref ml, .ref mn, .ref mw, .ref mt, .ref mv, .ref mu, .int (nI bl), .int (nI z.1), .int (nI z.2.1)])), (mb, .inl (cI, 20000, .inl ((r_add b v).1)))]) := by
  refine Ct.ofW (by decide) (Nat.le_of_ble_eq_true rfl) ?_
  intro p e s m below meth c A ls C0 hP hD hS hl
  obtain ⟨hx, hb, hml, hown, hts, hK, hN, hr, hlocks, hA, hnm⟩ := C0
  have hl : lv_has ls 2 [(0, .ref g), (1, .int v)] := hl
  have hown : s.vm.findClass R_Model = some m.cls := hown
  refine lv_aload_n hx hb d_Model_add_0 rfl (lv_at hl 0 rfl) ?_
  refine g_Model_16 hx hb hts hown hK hP 0 rfl rfl d_Model_add_1 ?_
  refine lv_aload_n hx hb d_Model_add_4 rfl (lv_at hl 0 rfl) ?_
  refine g_Model_48 hx hb hts hown hK hP 0 rfl rfl d_Model_add_5 ?_
  refine lv_iload_n hx hb d_Model_add_8 rfl (lv_at hl 1 rfl) ?_
  refine lv_sipush (v := nI 255) hx hb d_Model_add_9 (by decide +kernel) ?_
  refine lv_iand hx hb d_Model_add_12 ?_
  refine z_i (r_low v) ?_
  refine z_iast (w2 := [(g, .inr (4, [.int cd, .ref mr, .ref ms, .int (nI n0), .ref mb, .int (nI b.2), .int z.2.2, .ref ml, .ref mn, .ref mw, .ref mt, .ref mv, .ref mu, .int (nI bl), .int (nI z.1), .int (nI z.2.1)])), (mb, .inl (cI, 20000, .inl (upd b.1 b.2 (nI (low8 v)))))]) hx hb hK hP hD hS 1 0 rfl rfl (by omega) (by decide) d_Model_add_13 rfl (fun H locs hP hD hS => ?_)
  refine lv_aload_n hx hb d_Model_add_14 rfl (lv_at hl 0 rfl) ?_
  refine lv_dup hx hb d_Model_add_15 rfl ?_
  refine g_Model_48 hx hb hts hown hK hP 0 rfl rfl d_Model_add_16 ?_
  refine lv_iconst (v := nI 1) hx hb d_Model_add_19 (by decide +kernel) ?_
  refine lv_iadd hx hb d_Model_add_20 (z_i (nI_add b.2 1) ?_)
  refine p_Model_48 (w2 := [(g, .inr (4, [.int cd, .ref mr, .ref ms, .int (nI n0), .ref mb, .int (nI (b.2 + 1)), .int z.2.2, .ref ml, .ref mn, .ref mw, .ref mt, .ref mv, .ref mu, .int (nI bl), .int (nI z.1), .int (nI z.2.1)])), (mb, .inl (cI, 20000, .inl (upd b.1 b.2 (nI (low8 v)))))]) hx hb hts hown hK hP hD hS 0 rfl (Nat.le_of_ble_eq_true rfl) rfl d_Model_add_21 (fun H locs hP hD hS => ?_)
  exact z_vret hx hb hr hlocks hS hP hD ⟨rfl, rfl⟩ d_Model_add_24

set_option maxHeartbeats 4000000 in
set_option maxRecDepth 100000 in
theorem c_Model_append (l : Launch) (D : va_G) (cI cJ : ClassId) (g : Nat) (mr : Nat) (ms : Nat) (mb : Nat) (ml : Nat) (mn : Nat) (mw : Nat) (mt : Nat) (mv : Nat) (mu : Nat) (cd : Int32) (n0 : Nat) (bl : Nat) (z : SS) (b : RB) (v : Int32) (hu : b.2 ≤ 20000) : Ct l D (zT cI cJ) y_Model_append b_Model_append 2 (some .boolean) 1 21 0 0 [.ref g, .int v] [(g, .inr (4, [.int cd, .ref mr, .ref ms, .int (nI n0), .ref mb, .int (nI b.2), .int z.2.2, .ref ml, .ref mn, .ref mw, .ref mt, .ref mv, .ref mu, .int (nI bl), .int (nI z.1), .int (nI z.2.1)])), (mb, .inl (cI, 20000, .inl b.1))] (zEq (some (.int (zb (decide (b.2 < 20000))))) [(g, .inr (4, [.int (nI 0), .ref mr, .ref ms, .int (nI n0), .ref mb, .int (nI ((r_app b v).2)), .int z.2.2, .ref ml, .ref mn, .ref mw, .ref mt, .ref mv, .ref mu, .int (nI bl), .int (nI z.1), .int (nI z.2.1)])), (mb, .inl (cI, 20000, .inl ((r_app b v).1)))]) := by
  refine Ct.ofW (by decide) (Nat.le_of_ble_eq_true rfl) ?_
  intro p e s m below meth c A ls C0 hP hD hS hl
  obtain ⟨hx, hb, hml, hown, hts, hK, hN, hr, hlocks, hA, hnm⟩ := C0
  have hl : lv_has ls 2 [(0, .ref g), (1, .int v)] := hl
  have hown : s.vm.findClass R_Model = some m.cls := hown
  refine lv_aload_n hx hb d_Model_append_0 rfl (lv_at hl 0 rfl) ?_
  refine lv_iconst (v := nI 0) hx hb d_Model_append_1 (by decide +kernel) ?_
  refine p_Model_42 (w2 := [(g, .inr (4, [.int (nI 0), .ref mr, .ref ms, .int (nI n0), .ref mb, .int (nI b.2), .int z.2.2, .ref ml, .ref mn, .ref mw, .ref mt, .ref mv, .ref mu, .int (nI bl), .int (nI z.1), .int (nI z.2.1)])), (mb, .inl (cI, 20000, .inl b.1))]) hx hb hts hown hK hP hD hS 0 rfl (Nat.le_of_ble_eq_true rfl) rfl d_Model_append_2 (fun H locs hP hD hS => ?_)
  refine lv_aload_n hx hb d_Model_append_5 rfl (lv_at hl 0 rfl) ?_
  refine g_Model_48 hx hb hts hown hK hP 0 rfl rfl d_Model_append_6 ?_
  refine lv_sipush (v := nI 20000) hx hb d_Model_append_9 (by decide +kernel) ?_
  refine zn_ne (a := b.2) (b := 20000) (by omega) (by omega) hx hb d_Model_append_12 (tgt := 17) (by decide) (fun c_12 => ?_) (fun c_12 => ?_)
  · skip
    refine lv_aload_n hx hb d_Model_append_17 rfl (lv_at hl 0 rfl) ?_
    refine lv_iload_n hx hb d_Model_append_18 rfl (lv_at hl 1 rfl) ?_
    refine z_callEv (wr := []) (w2 := [(g, .inr (4, [.int (nI 0), .ref mr, .ref ms, .int (nI n0), .ref mb, .int (nI ((r_add b v).2)), .int z.2.2, .ref ml, .ref mn, .ref mw, .ref mt, .ref mv, .ref mu, .int (nI bl), .int (nI z.1), .int (nI z.2.1)])), (mb, .inl (cI, 20000, .inl ((r_add b v).1)))]) (z_runV (rest := []) hx hb hml hown hts hK hN (c_Model_add l D cI cJ g mr ms mb ml mn mw mt mv mu (nI 0) n0 bl z b v (by (try dsimp only); omega)) kk_Model_53 (zP.cut hP [0, 1] rfl) (hD.sub [0, 1] (by decide) rfl) 0 rfl rfl rfl hl.1 rfl (Nat.le_of_ble_eq_true rfl) d_Model_append_19 (by decide) (by decide)) hP hD hS hA [0, 1] [] [0, 1] rfl rfl (by decide) (by decide) (by decide) rfl (fun H locs hP hD hS => ?_)
    refine lv_iconst (v := nI 1) hx hb d_Model_append_22 (by decide +kernel) ?_
    exact z_bret hx hb hr hlocks (Or.inr rfl) hS hP hD ⟨zb_t (decide_eq_true (by omega)), by unfold r_app; rw [if_pos (show b.2 < 20000 by omega)]⟩ d_Model_append_23
  · skip
    refine lv_iconst (v := nI 0) hx hb d_Model_append_15 (by decide +kernel) ?_
    exact z_bret hx hb hr hlocks (Or.inl rfl) hS hP hD ⟨zb_f (decide_eq_false (by omega)), by unfold r_app; rw [if_neg (by omega)]⟩ d_Model_append_16

set_option maxHeartbeats 4000000 in
set_option maxRecDepth 100000 in
theorem c_Model_cut (l : Launch) (D : va_G) (cI cJ : ClassId) (g : Nat) (mr : Nat) (ms : Nat) (mb : Nat) (ml : Nat) (mn : Nat) (mw : Nat) (mt : Nat) (mv : Nat) (mu : Nat) (cd : Int32) (n0 : Nat) (sz : Nat) (bl : Nat) (z : SS) (k : Int32) (hu : sz ≤ 20000) : Ct l D (zT cI cJ) y_Model_cut b_Model_cut 2 (some .boolean) 0 0 0 0 [.ref g, .int k] [(g, .inr (4, [.int cd, .ref mr, .ref ms, .int (nI n0), .ref mb, .int (nI sz), .int z.2.2, .ref ml, .ref mn, .ref mw, .ref mt, .ref mv, .ref mu, .int (nI bl), .int (nI z.1), .int (nI z.2.1)]))] (zEq (some (.int (zb (p_cutB sz k)))) [(g, .inr (4, [.int (nI 0), .ref mr, .ref ms, .int (nI n0), .ref mb, .int (nI (p_cut sz k)), .int z.2.2, .ref ml, .ref mn, .ref mw, .ref mt, .ref mv, .ref mu, .int (nI bl), .int (nI z.1), .int (nI z.2.1)]))]) := by
  refine Ct.ofW (by decide) (Nat.le_of_ble_eq_true rfl) ?_
  intro p e s m below meth c A ls C0 hP hD hS hl
  obtain ⟨hx, hb, hml, hown, hts, hK, hN, hr, hlocks, hA, hnm⟩ := C0
  have hl : lv_has ls 2 [(0, .ref g), (1, .int k)] := hl
  have hown : s.vm.findClass R_Model = some m.cls := hown
  refine lv_aload_n hx hb d_Model_cut_0 rfl (lv_at hl 0 rfl) ?_
  refine lv_iconst (v := nI 0) hx hb d_Model_cut_1 (by decide +kernel) ?_
  refine p_Model_42 (w2 := [(g, .inr (4, [.int (nI 0), .ref mr, .ref ms, .int (nI n0), .ref mb, .int (nI sz), .int z.2.2, .ref ml, .ref mn, .ref mw, .ref mt, .ref mv, .ref mu, .int (nI bl), .int (nI z.1), .int (nI z.2.1)]))]) hx hb hts hown hK hP hD hS 0 rfl (Nat.le_of_ble_eq_true rfl) rfl d_Model_cut_2 (fun H locs hP hD hS => ?_)
  refine lv_iload_n hx hb d_Model_cut_5 rfl (lv_at hl 1 rfl) ?_
  refine lv_if_lt (tgt := 17) hx hb d_Model_cut_6 (by decide) (fun c_6 => ?_) (fun c_6 => ?_)
  · skip
    refine lv_iconst (v := nI 0) hx hb d_Model_cut_17 (by decide +kernel) ?_
    exact z_bret hx hb hr hlocks (Or.inl rfl) hS hP hD ⟨zb_f (decide_eq_false (fun z => by first | exact z.1 c_6 | exact c_14 z.2)), by unfold p_cut; rw [if_neg (fun z => by first | exact (of_decide_eq_true z).1 c_6 | exact c_14 (of_decide_eq_true z).2)]⟩ d_Model_cut_18
  · skip
    refine lv_iload_n hx hb d_Model_cut_9 rfl (lv_at hl 1 rfl) ?_
    refine lv_aload_n hx hb d_Model_cut_10 rfl (lv_at hl 0 rfl) ?_
    refine g_Model_48 hx hb hts hown hK hP 0 rfl rfl d_Model_cut_11 ?_
    refine lv_icmp_le (tgt := 19) hx hb d_Model_cut_14 (by decide) (fun c_14 => ?_) (fun c_14 => ?_)
    · skip
      obtain ⟨j, hj, rfl⟩ := p_cutB_of (us := sz) (k := k) (by omega) (decide_eq_true ⟨c_6, c_14⟩)
      refine lv_aload_n hx hb d_Model_cut_19 rfl (lv_at hl 0 rfl) ?_
      refine lv_iload_n hx hb d_Model_cut_20 rfl (lv_at hl 1 rfl) ?_
      refine p_Model_48 (w2 := [(g, .inr (4, [.int (nI 0), .ref mr, .ref ms, .int (nI n0), .ref mb, .int (nI j), .int z.2.2, .ref ml, .ref mn, .ref mw, .ref mt, .ref mv, .ref mu, .int (nI bl), .int (nI z.1), .int (nI z.2.1)]))]) hx hb hts hown hK hP hD hS 0 rfl (Nat.le_of_ble_eq_true rfl) rfl d_Model_cut_21 (fun H locs hP hD hS => ?_)
      refine lv_iconst (v := nI 1) hx hb d_Model_cut_24 (by decide +kernel) ?_
      exact z_bret hx hb hr hlocks (Or.inr rfl) hS hP hD ⟨zb_t (decide_eq_true ⟨c_6, c_14⟩), by unfold p_cut; rw [if_pos (show p_cutB sz (nI j) = true from decide_eq_true ⟨c_6, c_14⟩), nI_clamp (by omega)]⟩ d_Model_cut_25
    · skip
      refine lv_iconst (v := nI 0) hx hb d_Model_cut_17 (by decide +kernel) ?_
      exact z_bret hx hb hr hlocks (Or.inl rfl) hS hP hD ⟨zb_f (decide_eq_false (fun z => by first | exact z.1 c_6 | exact c_14 z.2)), by unfold p_cut; rw [if_neg (fun z => by first | exact (of_decide_eq_true z).1 c_6 | exact c_14 (of_decide_eq_true z).2)]⟩ d_Model_cut_18

set_option maxHeartbeats 4000000 in
set_option maxRecDepth 100000 in
theorem c_Model_least (l : Launch) (D : va_G) (cI cJ : ClassId) (g : Nat) (mr : Nat) (ms : Nat) (mb : Nat) (ml : Nat) (mn : Nat) (mw : Nat) (mt : Nat) (mv : Nat) (mu : Nat) (cd : Int32) (n0 : Nat) (sz : Nat) (bl : Nat) (z : SS) (le : Nat → Int64) (k : Int32) (hbl : bl ≤ 32) : Ct l D (zT cI cJ) y_Model_least b_Model_least 2 (some .long) 0 0 0 0 [.ref g, .int k] [(g, .inr (4, [.int cd, .ref mr, .ref ms, .int (nI n0), .ref mb, .int (nI sz), .int z.2.2, .ref ml, .ref mn, .ref mw, .ref mt, .ref mv, .ref mu, .int (nI bl), .int (nI z.1), .int (nI z.2.1)])), (ml, .inl (cJ, 40, .inr (.inl le)))] (zEq (some (.long (p_least bl le k))) [(g, .inr (4, [.int (nI 0), .ref mr, .ref ms, .int (nI n0), .ref mb, .int (nI sz), .int z.2.2, .ref ml, .ref mn, .ref mw, .ref mt, .ref mv, .ref mu, .int (nI bl), .int (nI z.1), .int (nI z.2.1)])), (ml, .inl (cJ, 40, .inr (.inl le)))]) := by
  refine Ct.ofW (by decide) (Nat.le_of_ble_eq_true rfl) ?_
  intro p e s m below meth c A ls C0 hP hD hS hl
  obtain ⟨hx, hb, hml, hown, hts, hK, hN, hr, hlocks, hA, hnm⟩ := C0
  have hl : lv_has ls 2 [(0, .ref g), (1, .int k)] := hl
  have hown : s.vm.findClass R_Model = some m.cls := hown
  refine lv_aload_n hx hb d_Model_least_0 rfl (lv_at hl 0 rfl) ?_
  refine lv_iconst (v := nI 0) hx hb d_Model_least_1 (by decide +kernel) ?_
  refine p_Model_42 (w2 := [(g, .inr (4, [.int (nI 0), .ref mr, .ref ms, .int (nI n0), .ref mb, .int (nI sz), .int z.2.2, .ref ml, .ref mn, .ref mw, .ref mt, .ref mv, .ref mu, .int (nI bl), .int (nI z.1), .int (nI z.2.1)])), (ml, .inl (cJ, 40, .inr (.inl le)))]) hx hb hts hown hK hP hD hS 0 rfl (Nat.le_of_ble_eq_true rfl) rfl d_Model_least_2 (fun H locs hP hD hS => ?_)
  refine lv_iload_n hx hb d_Model_least_5 rfl (lv_at hl 1 rfl) ?_
  refine lv_if_lt (tgt := 17) hx hb d_Model_least_6 (by decide) (fun c_6 => ?_) (fun c_6 => ?_)
  · skip
    refine lv_lconst (v := 0) hx hb d_Model_least_17 (by decide +kernel) ?_
    refine lv_goto (tgt := 27) hx hb d_Model_least_18 (by decide) ?_
    exact z_lret hx hb hr hlocks hS hP hD ⟨by unfold p_least; first | rw [if_pos (show p_has bl (nI j) = true from decide_eq_true ⟨c_6, Int32.not_le.mpr c_14⟩), nI_clamp (by omega)] | rw [if_neg (fun z => by first | exact (of_decide_eq_true z).1 c_6 | exact c_14 (Int32.not_le.mp (of_decide_eq_true z).2))], rfl⟩ d_Model_least_27
  · skip
    refine lv_iload_n hx hb d_Model_least_9 rfl (lv_at hl 1 rfl) ?_
    refine lv_aload_n hx hb d_Model_least_10 rfl (lv_at hl 0 rfl) ?_
    refine g_Model_61 hx hb hts hown hK hP 0 rfl rfl d_Model_least_11 ?_
    refine lv_icmp_lt (tgt := 21) hx hb d_Model_least_14 (by decide) (fun c_14 => ?_) (fun c_14 => ?_)
    · skip
      obtain ⟨j, hj, rfl⟩ := p_has_of (us := bl) (k := k) (by omega) (decide_eq_true ⟨c_6, Int32.not_le.mpr c_14⟩)
      refine lv_aload_n hx hb d_Model_least_21 rfl (lv_at hl 0 rfl) ?_
      refine g_Model_24 hx hb hts hown hK hP 0 rfl rfl d_Model_least_22 ?_
      refine lv_iload_n hx hb d_Model_least_25 rfl (lv_at hl 1 rfl) ?_
      refine z_lald hx hb hK hP 1 1 rfl rfl (by omega) (by decide) d_Model_least_26 ?_
      exact z_lret hx hb hr hlocks hS hP hD ⟨by unfold p_least; first | rw [if_pos (show p_has bl (nI j) = true from decide_eq_true ⟨c_6, Int32.not_le.mpr c_14⟩), nI_clamp (by omega)] | rw [if_neg (fun z => by first | exact (of_decide_eq_true z).1 c_6 | exact c_14 (Int32.not_le.mp (of_decide_eq_true z).2))], rfl⟩ d_Model_least_27
    · skip
      refine lv_lconst (v := 0) hx hb d_Model_least_17 (by decide +kernel) ?_
      refine lv_goto (tgt := 27) hx hb d_Model_least_18 (by decide) ?_
      exact z_lret hx hb hr hlocks hS hP hD ⟨by unfold p_least; first | rw [if_pos (show p_has bl (nI j) = true from decide_eq_true ⟨c_6, Int32.not_le.mpr c_14⟩), nI_clamp (by omega)] | rw [if_neg (fun z => by first | exact (of_decide_eq_true z).1 c_6 | exact c_14 (Int32.not_le.mp (of_decide_eq_true z).2))], rfl⟩ d_Model_least_27

set_option maxHeartbeats 4000000 in
set_option maxRecDepth 100000 in
theorem c_Model_width (l : Launch) (D : va_G) (cI cJ : ClassId) (g : Nat) (mr : Nat) (ms : Nat) (mb : Nat) (ml : Nat) (mn : Nat) (mw : Nat) (mt : Nat) (mv : Nat) (mu : Nat) (cd : Int32) (n0 : Nat) (sz : Nat) (bl : Nat) (z : SS) (wi : Nat → Int32) (k : Int32) (pp : Int32) (hbl : bl ≤ 32) : Ct l D (zT cI cJ) y_Model_width b_Model_width 3 (some .int) 0 0 0 0 [.ref g, .int k, .int pp] [(g, .inr (4, [.int cd, .ref mr, .ref ms, .int (nI n0), .ref mb, .int (nI sz), .int z.2.2, .ref ml, .ref mn, .ref mw, .ref mt, .ref mv, .ref mu, .int (nI bl), .int (nI z.1), .int (nI z.2.1)])), (mw, .inl (cI, 160, .inl wi))] (zEq (some (.int (p_part bl wi k pp))) [(g, .inr (4, [.int (nI 0), .ref mr, .ref ms, .int (nI n0), .ref mb, .int (nI sz), .int z.2.2, .ref ml, .ref mn, .ref mw, .ref mt, .ref mv, .ref mu, .int (nI bl), .int (nI z.1), .int (nI z.2.1)])), (mw, .inl (cI, 160, .inl wi))]) := by
  refine Ct.ofW (by decide) (Nat.le_of_ble_eq_true rfl) ?_
  intro p e s m below meth c A ls C0 hP hD hS hl
  obtain ⟨hx, hb, hml, hown, hts, hK, hN, hr, hlocks, hA, hnm⟩ := C0
  have hl : lv_has ls 3 [(0, .ref g), (1, .int k), (2, .int pp)] := hl
  have hown : s.vm.findClass R_Model = some m.cls := hown
  refine lv_aload_n hx hb d_Model_width_0 rfl (lv_at hl 0 rfl) ?_
  refine lv_iconst (v := nI 0) hx hb d_Model_width_1 (by decide +kernel) ?_
  refine p_Model_42 (w2 := [(g, .inr (4, [.int (nI 0), .ref mr, .ref ms, .int (nI n0), .ref mb, .int (nI sz), .int z.2.2, .ref ml, .ref mn, .ref mw, .ref mt, .ref mv, .ref mu, .int (nI bl), .int (nI z.1), .int (nI z.2.1)])), (mw, .inl (cI, 160, .inl wi))]) hx hb hts hown hK hP hD hS 0 rfl (Nat.le_of_ble_eq_true rfl) rfl d_Model_width_2 (fun H locs hP hD hS => ?_)
  refine lv_iload_n hx hb d_Model_width_5 rfl (lv_at hl 1 rfl) ?_
  refine lv_if_lt (tgt := 26) hx hb d_Model_width_6 (by decide) (fun c_6 => ?_) (fun c_6 => ?_)
  · skip
    refine lv_iconst (v := (-1)) hx hb d_Model_width_26 (by decide +kernel) ?_
    refine lv_goto (tgt := 40) hx hb d_Model_width_27 (by decide) ?_
    exact z_iret hx hb hr hlocks hS hP hD ⟨by first | rw [r_part hj hi4 (by omega)] | rw [r_part0 (by first | exact Or.inl c_6 | exact Or.inr (Or.inl c_14) | exact Or.inr (Or.inr (Or.inl c_18)) | exact Or.inr (Or.inr (Or.inr c_23)))], rfl⟩ d_Model_width_40
  · skip
    refine lv_iload_n hx hb d_Model_width_9 rfl (lv_at hl 1 rfl) ?_
    refine lv_aload_n hx hb d_Model_width_10 rfl (lv_at hl 0 rfl) ?_
    refine g_Model_61 hx hb hts hown hK hP 0 rfl rfl d_Model_width_11 ?_
    refine lv_icmp_ge (tgt := 26) hx hb d_Model_width_14 (by decide) (fun c_14 => ?_) (fun c_14 => ?_)
    · skip
      refine lv_iconst (v := (-1)) hx hb d_Model_width_26 (by decide +kernel) ?_
      refine lv_goto (tgt := 40) hx hb d_Model_width_27 (by decide) ?_
      exact z_iret hx hb hr hlocks hS hP hD ⟨by first | rw [r_part hj hi4 (by omega)] | rw [r_part0 (by first | exact Or.inl c_6 | exact Or.inr (Or.inl c_14) | exact Or.inr (Or.inr (Or.inl c_18)) | exact Or.inr (Or.inr (Or.inr c_23)))], rfl⟩ d_Model_width_40
    · skip
      refine lv_iload_n hx hb d_Model_width_17 rfl (lv_at hl 2 rfl) ?_
      refine lv_if_lt (tgt := 26) hx hb d_Model_width_18 (by decide) (fun c_18 => ?_) (fun c_18 => ?_)
      · skip
        refine lv_iconst (v := (-1)) hx hb d_Model_width_26 (by decide +kernel) ?_
        refine lv_goto (tgt := 40) hx hb d_Model_width_27 (by decide) ?_
        exact z_iret hx hb hr hlocks hS hP hD ⟨by first | rw [r_part hj hi4 (by omega)] | rw [r_part0 (by first | exact Or.inl c_6 | exact Or.inr (Or.inl c_14) | exact Or.inr (Or.inr (Or.inl c_18)) | exact Or.inr (Or.inr (Or.inr c_23)))], rfl⟩ d_Model_width_40
      · skip
        refine lv_iload_n hx hb d_Model_width_21 rfl (lv_at hl 2 rfl) ?_
        refine lv_iconst (v := nI 3) hx hb d_Model_width_22 (by decide +kernel) ?_
        refine lv_icmp_le (tgt := 30) hx hb d_Model_width_23 (by decide) (fun c_23 => ?_) (fun c_23 => ?_)
        · skip
          obtain ⟨j, hj, rfl⟩ := p_has_of (us := bl) (k := k) (by omega) (decide_eq_true ⟨c_6, c_14⟩)
          obtain ⟨i, hi, rfl⟩ := nI_of (x := pp) c_18
          have hi4 : i < 4 := by have := (nI_leI hi (by decide)).mp c_23; omega
          refine lv_aload_n hx hb d_Model_width_30 rfl (lv_at hl 0 rfl) ?_
          refine g_Model_30 hx hb hts hown hK hP 0 rfl rfl d_Model_width_31 ?_
          refine lv_iconst (v := nI 4) hx hb d_Model_width_34 (by decide +kernel) ?_
          refine lv_iload_n hx hb d_Model_width_35 rfl (lv_at hl 1 rfl) ?_
          refine lv_imul hx hb d_Model_width_36 (z_i (pk_mul 4 j) ?_)
          refine lv_iload_n hx hb d_Model_width_37 rfl (lv_at hl 2 rfl) ?_
          refine lv_iadd hx hb d_Model_width_38 (z_i (nI_add (4 * j) i) ?_)
          refine z_iald hx hb hK hP 1 0 rfl rfl (by omega) (by decide) d_Model_width_39 ?_
          exact z_iret hx hb hr hlocks hS hP hD ⟨by first | rw [r_part hj hi4 (by omega)] | rw [r_part0 (by first | exact Or.inl c_6 | exact Or.inr (Or.inl c_14) | exact Or.inr (Or.inr (Or.inl c_18)) | exact Or.inr (Or.inr (Or.inr c_23)))], rfl⟩ d_Model_width_40
        · skip
          refine lv_iconst (v := (-1)) hx hb d_Model_width_26 (by decide +kernel) ?_
          refine lv_goto (tgt := 40) hx hb d_Model_width_27 (by decide) ?_
          exact z_iret hx hb hr hlocks hS hP hD ⟨by first | rw [r_part hj hi4 (by omega)] | rw [r_part0 (by first | exact Or.inl c_6 | exact Or.inr (Or.inl c_14) | exact Or.inr (Or.inr (Or.inl c_18)) | exact Or.inr (Or.inr (Or.inr c_23)))], rfl⟩ d_Model_width_40

set_option maxHeartbeats 4000000 in
set_option maxRecDepth 100000 in
theorem c_Model_start (l : Launch) (D : va_G) (cI cJ : ClassId) (g : Nat) (mr : Nat) (ms : Nat) (mb : Nat) (ml : Nat) (mn : Nat) (mw : Nat) (mt : Nat) (mv : Nat) (mu : Nat) (cd : Int32) (n0 : Nat) (sz : Nat) (bl : Nat) (z : SS) (st : Nat → Int32) (k : Int32) (pp : Int32) (hbl : bl ≤ 32) : Ct l D (zT cI cJ) y_Model_start b_Model_start 3 (some .int) 0 0 0 0 [.ref g, .int k, .int pp] [(g, .inr (4, [.int cd, .ref mr, .ref ms, .int (nI n0), .ref mb, .int (nI sz), .int z.2.2, .ref ml, .ref mn, .ref mw, .ref mt, .ref mv, .ref mu, .int (nI bl), .int (nI z.1), .int (nI z.2.1)])), (mt, .inl (cI, 160, .inl st))] (zEq (some (.int (p_part bl st k pp))) [(g, .inr (4, [.int (nI 0), .ref mr, .ref ms, .int (nI n0), .ref mb, .int (nI sz), .int z.2.2, .ref ml, .ref mn, .ref mw, .ref mt, .ref mv, .ref mu, .int (nI bl), .int (nI z.1), .int (nI z.2.1)])), (mt, .inl (cI, 160, .inl st))]) := by
  refine Ct.ofW (by decide) (Nat.le_of_ble_eq_true rfl) ?_
  intro p e s m below meth c A ls C0 hP hD hS hl
  obtain ⟨hx, hb, hml, hown, hts, hK, hN, hr, hlocks, hA, hnm⟩ := C0
  have hl : lv_has ls 3 [(0, .ref g), (1, .int k), (2, .int pp)] := hl
  have hown : s.vm.findClass R_Model = some m.cls := hown
  refine lv_aload_n hx hb d_Model_start_0 rfl (lv_at hl 0 rfl) ?_
  refine lv_iconst (v := nI 0) hx hb d_Model_start_1 (by decide +kernel) ?_
  refine p_Model_42 (w2 := [(g, .inr (4, [.int (nI 0), .ref mr, .ref ms, .int (nI n0), .ref mb, .int (nI sz), .int z.2.2, .ref ml, .ref mn, .ref mw, .ref mt, .ref mv, .ref mu, .int (nI bl), .int (nI z.1), .int (nI z.2.1)])), (mt, .inl (cI, 160, .inl st))]) hx hb hts hown hK hP hD hS 0 rfl (Nat.le_of_ble_eq_true rfl) rfl d_Model_start_2 (fun H locs hP hD hS => ?_)
  refine lv_iload_n hx hb d_Model_start_5 rfl (lv_at hl 1 rfl) ?_
  refine lv_if_lt (tgt := 26) hx hb d_Model_start_6 (by decide) (fun c_6 => ?_) (fun c_6 => ?_)
  · skip
    refine lv_iconst (v := (-1)) hx hb d_Model_start_26 (by decide +kernel) ?_
    refine lv_goto (tgt := 40) hx hb d_Model_start_27 (by decide) ?_
    exact z_iret hx hb hr hlocks hS hP hD ⟨by first | rw [r_part hj hi4 (by omega)] | rw [r_part0 (by first | exact Or.inl c_6 | exact Or.inr (Or.inl c_14) | exact Or.inr (Or.inr (Or.inl c_18)) | exact Or.inr (Or.inr (Or.inr c_23)))], rfl⟩ d_Model_start_40
  · skip
    refine lv_iload_n hx hb d_Model_start_9 rfl (lv_at hl 1 rfl) ?_
    refine lv_aload_n hx hb d_Model_start_10 rfl (lv_at hl 0 rfl) ?_
    refine g_Model_61 hx hb hts hown hK hP 0 rfl rfl d_Model_start_11 ?_
    refine lv_icmp_ge (tgt := 26) hx hb d_Model_start_14 (by decide) (fun c_14 => ?_) (fun c_14 => ?_)
    · skip
      refine lv_iconst (v := (-1)) hx hb d_Model_start_26 (by decide +kernel) ?_
      refine lv_goto (tgt := 40) hx hb d_Model_start_27 (by decide) ?_
      exact z_iret hx hb hr hlocks hS hP hD ⟨by first | rw [r_part hj hi4 (by omega)] | rw [r_part0 (by first | exact Or.inl c_6 | exact Or.inr (Or.inl c_14) | exact Or.inr (Or.inr (Or.inl c_18)) | exact Or.inr (Or.inr (Or.inr c_23)))], rfl⟩ d_Model_start_40
    · skip
      refine lv_iload_n hx hb d_Model_start_17 rfl (lv_at hl 2 rfl) ?_
      refine lv_if_lt (tgt := 26) hx hb d_Model_start_18 (by decide) (fun c_18 => ?_) (fun c_18 => ?_)
      · skip
        refine lv_iconst (v := (-1)) hx hb d_Model_start_26 (by decide +kernel) ?_
        refine lv_goto (tgt := 40) hx hb d_Model_start_27 (by decide) ?_
        exact z_iret hx hb hr hlocks hS hP hD ⟨by first | rw [r_part hj hi4 (by omega)] | rw [r_part0 (by first | exact Or.inl c_6 | exact Or.inr (Or.inl c_14) | exact Or.inr (Or.inr (Or.inl c_18)) | exact Or.inr (Or.inr (Or.inr c_23)))], rfl⟩ d_Model_start_40
      · skip
        refine lv_iload_n hx hb d_Model_start_21 rfl (lv_at hl 2 rfl) ?_
        refine lv_iconst (v := nI 3) hx hb d_Model_start_22 (by decide +kernel) ?_
        refine lv_icmp_le (tgt := 30) hx hb d_Model_start_23 (by decide) (fun c_23 => ?_) (fun c_23 => ?_)
        · skip
          obtain ⟨j, hj, rfl⟩ := p_has_of (us := bl) (k := k) (by omega) (decide_eq_true ⟨c_6, c_14⟩)
          obtain ⟨i, hi, rfl⟩ := nI_of (x := pp) c_18
          have hi4 : i < 4 := by have := (nI_leI hi (by decide)).mp c_23; omega
          refine lv_aload_n hx hb d_Model_start_30 rfl (lv_at hl 0 rfl) ?_
          refine g_Model_33 hx hb hts hown hK hP 0 rfl rfl d_Model_start_31 ?_
          refine lv_iconst (v := nI 4) hx hb d_Model_start_34 (by decide +kernel) ?_
          refine lv_iload_n hx hb d_Model_start_35 rfl (lv_at hl 1 rfl) ?_
          refine lv_imul hx hb d_Model_start_36 (z_i (pk_mul 4 j) ?_)
          refine lv_iload_n hx hb d_Model_start_37 rfl (lv_at hl 2 rfl) ?_
          refine lv_iadd hx hb d_Model_start_38 (z_i (nI_add (4 * j) i) ?_)
          refine z_iald hx hb hK hP 1 0 rfl rfl (by omega) (by decide) d_Model_start_39 ?_
          exact z_iret hx hb hr hlocks hS hP hD ⟨by first | rw [r_part hj hi4 (by omega)] | rw [r_part0 (by first | exact Or.inl c_6 | exact Or.inr (Or.inl c_14) | exact Or.inr (Or.inr (Or.inl c_18)) | exact Or.inr (Or.inr (Or.inr c_23)))], rfl⟩ d_Model_start_40
        · skip
          refine lv_iconst (v := (-1)) hx hb d_Model_start_26 (by decide +kernel) ?_
          refine lv_goto (tgt := 40) hx hb d_Model_start_27 (by decide) ?_
          exact z_iret hx hb hr hlocks hS hP hD ⟨by first | rw [r_part hj hi4 (by omega)] | rw [r_part0 (by first | exact Or.inl c_6 | exact Or.inr (Or.inl c_14) | exact Or.inr (Or.inr (Or.inl c_18)) | exact Or.inr (Or.inr (Or.inr c_23)))], rfl⟩ d_Model_start_40

set_option maxHeartbeats 4000000 in
set_option maxRecDepth 100000 in
theorem c_Model_zigzag (l : Launch) (D : va_G) (cI cJ : ClassId) (v : Int64)  : Ct l D (zT cI cJ) y_Model_zigzag b_Model_zigzag 2 (some .long) 0 0 0 0 [.long v] [] (zEq (some (.long (r_zig v))) []) := by
  refine Ct.ofW (by decide) (Nat.le_of_ble_eq_true rfl) ?_
  intro p e s m below meth c A ls C0 hP hD hS hl
  obtain ⟨hx, hb, hml, hown, hts, hK, hN, hr, hlocks, hA, hnm⟩ := C0
  have hl : lv_has ls 2 [(0, .long v)] := hl
  have hown : s.vm.findClass R_Model = some m.cls := hown
  refine lv_lload_n hx hb d_Model_zigzag_0 rfl (lv_at hl 0 rfl) ?_
  refine lv_lconst (v := 0) hx hb d_Model_zigzag_1 (by decide +kernel) ?_
  refine zl_ge hx hb d_Model_zigzag_2 d_Model_zigzag_3 (tgt := 16) (by decide) (fun c_2 => ?_) (fun c_2 => ?_)
  · skip
    refine lv_ldc2 (v := (2)) hx hb hown (kc_Model_59 hts) d_Model_zigzag_16 ?_
    refine lv_lload_n hx hb d_Model_zigzag_19 rfl (lv_at hl 0 rfl) ?_
    refine lv_lmul hx hb d_Model_zigzag_20 ?_
    exact z_lret hx hb hr hlocks hS hP hD ⟨by unfold r_zig; first | rw [if_pos c_2] | rw [if_neg c_2], rfl⟩ d_Model_zigzag_21
  · skip
    refine lv_ldc2 (v := (-2)) hx hb hown (kc_Model_57 hts) d_Model_zigzag_6 ?_
    refine lv_lload_n hx hb d_Model_zigzag_9 rfl (lv_at hl 0 rfl) ?_
    refine lv_lmul hx hb d_Model_zigzag_10 ?_
    refine lv_lconst (v := 1) hx hb d_Model_zigzag_11 (by decide +kernel) ?_
    refine lv_lsub hx hb d_Model_zigzag_12 ?_
    refine lv_goto (tgt := 21) hx hb d_Model_zigzag_13 (by decide) ?_
    exact z_lret hx hb hr hlocks hS hP hD ⟨by unfold r_zig; first | rw [if_pos c_2] | rw [if_neg c_2], rfl⟩ d_Model_zigzag_21

set_option maxHeartbeats 4000000 in
set_option maxRecDepth 100000 in
theorem c_Model_unzigzag (l : Launch) (D : va_G) (cI cJ : ClassId) (v : Int64)  : Ct l D (zT cI cJ) y_Model_unzigzag b_Model_unzigzag 2 (some .long) 0 0 0 0 [.long v] [] (zEq (some (.long (r_unzig v))) []) := by
  refine Ct.ofW (by decide) (Nat.le_of_ble_eq_true rfl) ?_
  intro p e s m below meth c A ls C0 hP hD hS hl
  obtain ⟨hx, hb, hml, hown, hts, hK, hN, hr, hlocks, hA, hnm⟩ := C0
  have hl : lv_has ls 2 [(0, .long v)] := hl
  have hown : s.vm.findClass R_Model = some m.cls := hown
  refine lv_lload_n hx hb d_Model_unzigzag_0 rfl (lv_at hl 0 rfl) ?_
  refine lv_lconst (v := 1) hx hb d_Model_unzigzag_1 (by decide +kernel) ?_
  refine lv_land hx hb d_Model_unzigzag_2 ?_
  refine lv_lconst (v := 0) hx hb d_Model_unzigzag_3 (by decide +kernel) ?_
  refine zl_ne hx hb d_Model_unzigzag_4 d_Model_unzigzag_5 (tgt := 14) (by decide) (fun c_4 => ?_) (fun c_4 => ?_)
  · skip
    refine lv_lload_n hx hb d_Model_unzigzag_14 rfl (lv_at hl 0 rfl) ?_
    refine lv_iconst (v := nI 1) hx hb d_Model_unzigzag_15 (by decide +kernel) ?_
    refine lv_lushr (v := zushr v (nI 1)) hx hb d_Model_unzigzag_16 rfl ?_
    refine lv_lneg hx hb d_Model_unzigzag_17 ?_
    refine lv_lconst (v := 1) hx hb d_Model_unzigzag_18 (by decide +kernel) ?_
    refine lv_lsub hx hb d_Model_unzigzag_19 ?_
    exact z_lret hx hb hr hlocks hS hP hD ⟨by unfold r_unzig; first | rw [if_pos c_4] | rw [if_neg c_4], rfl⟩ d_Model_unzigzag_20
  · skip
    refine lv_lload_n hx hb d_Model_unzigzag_8 rfl (lv_at hl 0 rfl) ?_
    refine lv_iconst (v := nI 1) hx hb d_Model_unzigzag_9 (by decide +kernel) ?_
    refine lv_lushr (v := zushr v (nI 1)) hx hb d_Model_unzigzag_10 rfl ?_
    refine lv_goto (tgt := 20) hx hb d_Model_unzigzag_11 (by decide) ?_
    exact z_lret hx hb hr hlocks hS hP hD ⟨by unfold r_unzig; first | rw [if_pos c_4] | rw [if_neg c_4], rfl⟩ d_Model_unzigzag_20

set_option maxHeartbeats 4000000 in
set_option maxRecDepth 100000 in
theorem c_Model_difference (l : Launch) (D : va_G) (cI cJ : ClassId) (g : Nat) (mr : Nat) (ms : Nat) (mb : Nat) (ml : Nat) (mn : Nat) (mw : Nat) (mt : Nat) (mv : Nat) (mu : Nat) (cd : Int32) (n0 : Nat) (sz : Nat) (bl : Nat) (z : SS) (rq : Nat → Int64) (k : Nat) (hk : k + 1 < 2000) : Ct l D (zT cI cJ) y_Model_difference b_Model_difference 2 (some .long) 0 0 0 0 [.ref g, .int (nI k)] [(g, .inr (4, [.int cd, .ref mr, .ref ms, .int (nI n0), .ref mb, .int (nI sz), .int z.2.2, .ref ml, .ref mn, .ref mw, .ref mt, .ref mv, .ref mu, .int (nI bl), .int (nI z.1), .int (nI z.2.1)])), (mr, .inl (cJ, 2000, .inr (.inl rq)))] (zEq (some (.long (rq (k + 1) - rq k))) [(g, .inr (4, [.int cd, .ref mr, .ref ms, .int (nI n0), .ref mb, .int (nI sz), .int z.2.2, .ref ml, .ref mn, .ref mw, .ref mt, .ref mv, .ref mu, .int (nI bl), .int (nI z.1), .int (nI z.2.1)])), (mr, .inl (cJ, 2000, .inr (.inl rq)))]) := by
  refine Ct.ofW (by decide) (Nat.le_of_ble_eq_true rfl) ?_
  intro p e s m below meth c A ls C0 hP hD hS hl
  obtain ⟨hx, hb, hml, hown, hts, hK, hN, hr, hlocks, hA, hnm⟩ := C0
  have hl : lv_has ls 2 [(0, .ref g), (1, .int (nI k))] := hl
  have hown : s.vm.findClass R_Model = some m.cls := hown
  refine lv_aload_n hx hb d_Model_difference_0 rfl (lv_at hl 0 rfl) ?_
  refine g_Model_7 hx hb hts hown hK hP 0 rfl rfl d_Model_difference_1 ?_
  refine lv_iload_n hx hb d_Model_difference_4 rfl (lv_at hl 1 rfl) ?_
  refine lv_iconst (v := nI 1) hx hb d_Model_difference_5 (by decide +kernel) ?_
  refine lv_iadd hx hb d_Model_difference_6 (z_i (nI_add k 1) ?_)
  refine z_lald hx hb hK hP 1 1 rfl rfl (by omega) (by decide) d_Model_difference_7 ?_
  refine lv_aload_n hx hb d_Model_difference_8 rfl (lv_at hl 0 rfl) ?_
  refine g_Model_7 hx hb hts hown hK hP 0 rfl rfl d_Model_difference_9 ?_
  refine lv_iload_n hx hb d_Model_difference_12 rfl (lv_at hl 1 rfl) ?_
  refine z_lald hx hb hK hP 1 1 rfl rfl (by omega) (by decide) d_Model_difference_13 ?_
  refine lv_lsub hx hb d_Model_difference_14 ?_
  exact z_lret hx hb hr hlocks hS hP hD ⟨rfl, rfl⟩ d_Model_difference_15

set_option maxHeartbeats 4000000 in
set_option maxRecDepth 100000 in
theorem c_Model_addVarint (l : Launch) (D : va_G) (cI cJ : ClassId) (g : Nat) (mr : Nat) (ms : Nat) (mb : Nat) (ml : Nat) (mn : Nat) (mw : Nat) (mt : Nat) (mv : Nat) (mu : Nat) (cd : Int32) (n0 : Nat) (bl : Nat) (z : SS) (b : RB) (v : Int64) (hu : b.2 ≤ 19000) : Ct l D (zT cI cJ) y_Model_addVarint b_Model_addVarint 5 none 1 21 0 0 [.ref g, .long v] [(g, .inr (4, [.int cd, .ref mr, .ref ms, .int (nI n0), .ref mb, .int (nI b.2), .int z.2.2, .ref ml, .ref mn, .ref mw, .ref mt, .ref mv, .ref mu, .int (nI bl), .int (nI z.1), .int (nI z.2.1)])), (mb, .inl (cI, 20000, .inl b.1))] (zEq none [(g, .inr (4, [.int cd, .ref mr, .ref ms, .int (nI n0), .ref mb, .int (nI ((r_av b v).2)), .int z.2.2, .ref ml, .ref mn, .ref mw, .ref mt, .ref mv, .ref mu, .int (nI bl), .int (nI z.1), .int (nI z.2.1)])), (mb, .inl (cI, 20000, .inl ((r_av b v).1)))]) := by
  refine Ct.ofW (by decide) (Nat.le_of_ble_eq_true rfl) ?_
  intro p e s m below meth c A ls C0 hP hD hS hl
  obtain ⟨hx, hb, hml, hown, hts, hK, hN, hr, hlocks, hA, hnm⟩ := C0
  have hl : lv_has ls 5 [(0, .ref g), (1, .long v)] := hl
  have hown : s.vm.findClass R_Model = some m.cls := hown
  have hv := r_vn_in v
  have hs := r_avl_sz v (r_vn v) b
  have hj25 : ∀ (H : Heap) (locs : List Loc), va_P D classes [(g, .inr (4, [.int cd, .ref mr, .ref ms, .int (nI n0), .ref mb, .int (nI b.2), .int z.2.2, .ref ml, .ref mn, .ref mw, .ref mt, .ref mv, .ref mu, .int (nI bl), .int (nI z.1), .int (nI z.2.1)])), (mb, .inl (cI, 20000, .inl b.1))] H → va_D A [(g, .inr (4, [.int cd, .ref mr, .ref ms, .int (nI n0), .ref mb, .int (nI b.2), .int z.2.2, .ref ml, .ref mn, .ref mw, .ref mt, .ref mv, .ref mu, .int (nI bl), .int (nI z.1), .int (nI z.2.1)])), (mb, .inl (cI, 20000, .inl b.1))] → va_S A s.heap H locs → ∀ (ls : Array Slot), lv_has ls 5 [(0, .ref g), (1, .long v), (3, .int (nI (r_vn v)))] → W p l e { frames := 1, cells := 0, slots := 0, locals := 21 } s m ([.ref g, .long v] : List Value).toArray below meth c H locs 0 0 (MQ below (zQ D (zEq none [(g, .inr (4, [.int cd, .ref mr, .ref ms, .int (nI n0), .ref mb, .int (nI ((r_av b v).2)), .int z.2.2, .ref ml, .ref mn, .ref mw, .ref mt, .ref mv, .ref mu, .int (nI bl), .int (nI z.1), .int (nI z.2.1)])), (mb, .inl (cI, 20000, .inl ((r_av b v).1)))]) A) ([.ref g, .long v] : List Value).toArray s 0 0 A) (F0 m 25 ls []) := by
    intro   H locs hP hD hS ls hl
    refine lv_iconst (v := nI 0) hx hb d_Model_addVarint_25 (by decide +kernel) ?_
    refine lv_istore (lv' := [(4, .int (nI 0)), (0, .ref g), (1, .long v), (3, .int (nI (r_vn v)))]) hx hb d_Model_addVarint_26 hl (by decide) rfl (fun ls hl => ?_)
    have hlp28 : ∀ (n : Nat) (k : Nat), (k ≤ r_vn v) → r_vn v - k < n → ∀ (H : Heap) (locs : List Loc), va_P D classes [(g, .inr (4, [.int cd, .ref mr, .ref ms, .int (nI n0), .ref mb, .int (nI ((r_avl v (r_vn v) k b).2)), .int z.2.2, .ref ml, .ref mn, .ref mw, .ref mt, .ref mv, .ref mu, .int (nI bl), .int (nI z.1), .int (nI z.2.1)])), (mb, .inl (cI, 20000, .inl ((r_avl v (r_vn v) k b).1)))] H → va_D A [(g, .inr (4, [.int cd, .ref mr, .ref ms, .int (nI n0), .ref mb, .int (nI ((r_avl v (r_vn v) k b).2)), .int z.2.2, .ref ml, .ref mn, .ref mw, .ref mt, .ref mv, .ref mu, .int (nI bl), .int (nI z.1), .int (nI z.2.1)])), (mb, .inl (cI, 20000, .inl ((r_avl v (r_vn v) k b).1)))] → va_S A s.heap H locs → ∀ (ls : Array Slot), lv_has ls 5 [(0, .ref g), (1, .long v), (3, .int (nI (r_vn v))), (4, .int (nI k))] → W p l e { frames := 1, cells := 0, slots := 0, locals := 21 } s m ([.ref g, .long v] : List Value).toArray below meth c H locs 0 0 (MQ below (zQ D (zEq none [(g, .inr (4, [.int cd, .ref mr, .ref ms, .int (nI n0), .ref mb, .int (nI ((r_av b v).2)), .int z.2.2, .ref ml, .ref mn, .ref mw, .ref mt, .ref mv, .ref mu, .int (nI bl), .int (nI z.1), .int (nI z.2.1)])), (mb, .inl (cI, 20000, .inl ((r_av b v).1)))]) A) ([.ref g, .long v] : List Value).toArray s 0 0 A) (F0 m 28 ls []) := by
      intro n
      induction n with
      | zero => intro k hk hmu; exact absurd hmu (Nat.not_lt_zero _)
      | succ n ih =>
        intro k hk hmu H locs hP hD hS ls hl
        have hs2 := hs k
        have ih28 := ih
        refine lv_iload hx hb d_Model_addVarint_28 (lv_at hl 3 rfl) ?_
        refine lv_iload_n hx hb d_Model_addVarint_30 rfl (lv_at hl 2 rfl) ?_
        refine zn_ge (a := k) (b := r_vn v) (by omega) (by omega) hx hb d_Model_addVarint_31 (tgt := 72) (by decide) (fun c_31 => ?_) (fun c_31 => ?_)
        · skip
          exact z_vret hx hb hr hlocks hS hP hD ⟨rfl, by unfold r_av; rw [show k = r_vn v by omega]⟩ d_Model_addVarint_72
        · skip
          refine lv_aload_n hx hb d_Model_addVarint_34 rfl (lv_at hl 0 rfl) ?_
          refine lv_lload_n hx hb d_Model_addVarint_35 rfl (lv_at hl 1 rfl) ?_
          refine lv_bipush (v := nI 7) hx hb d_Model_addVarint_36 (by decide +kernel) ?_
          refine lv_iload hx hb d_Model_addVarint_38 (lv_at hl 3 rfl) ?_
          refine lv_imul hx hb d_Model_addVarint_40 (z_i (pk_mul 7 k) ?_)
          refine lv_lushr (v := zushr v (nI (7 * k))) hx hb d_Model_addVarint_41 rfl ?_
          refine lv_ldc2 (v := (127)) hx hb hown (kc_Model_51 hts) d_Model_addVarint_42 ?_
          refine lv_land hx hb d_Model_addVarint_45 ?_
          refine lv_l2i (v := ((zushr v (nI (7 * k))) &&& (127)).toInt32) hx hb d_Model_addVarint_46 rfl ?_
          refine lv_iload hx hb d_Model_addVarint_47 (lv_at hl 3 rfl) ?_
          refine lv_iload_n hx hb d_Model_addVarint_49 rfl (lv_at hl 2 rfl) ?_
          refine lv_iconst (v := nI 1) hx hb d_Model_addVarint_50 (by decide +kernel) ?_
          refine lv_isub hx hb d_Model_addVarint_51 (z_i (pk_sub (a := r_vn v) (b := 1) (by omega)) ?_)
          refine zn_ge (a := k) (b := (r_vn v) - 1) (by omega) (by omega) hx hb d_Model_addVarint_52 (tgt := 61) (by decide) (fun c_52 => ?_) (fun c_52 => ?_)
          · skip
            refine lv_iconst (v := nI 0) hx hb d_Model_addVarint_61 (by decide +kernel) ?_
            refine lv_iadd hx hb d_Model_addVarint_62 ?_
            refine z_callEv (wr := []) (w2 := [(g, .inr (4, [.int cd, .ref mr, .ref ms, .int (nI n0), .ref mb, .int (nI ((r_add (r_avl v (r_vn v) k b) ((((zushr v (nI (7 * k))) &&& (127)).toInt32) + (nI 0))).2)), .int z.2.2, .ref ml, .ref mn, .ref mw, .ref mt, .ref mv, .ref mu, .int (nI bl), .int (nI z.1), .int (nI z.2.1)])), (mb, .inl (cI, 20000, .inl ((r_add (r_avl v (r_vn v) k b) ((((zushr v (nI (7 * k))) &&& (127)).toInt32) + (nI 0))).1)))]) (z_runV (rest := []) hx hb hml hown hts hK hN (c_Model_add l D cI cJ g mr ms mb ml mn mw mt mv mu cd n0 bl z (r_avl v (r_vn v) k b) ((((zushr v (nI (7 * k))) &&& (127)).toInt32) + (nI 0)) (by (try dsimp only); omega)) kk_Model_53 (zP.cut hP [0, 1] rfl) (hD.sub [0, 1] (by decide) rfl) 0 rfl rfl rfl hl.1 rfl (Nat.le_of_ble_eq_true rfl) d_Model_addVarint_63 (by decide) (by decide)) hP hD hS hA [0, 1] [] [0, 1] rfl rfl (by decide) (by decide) (by decide) rfl (fun H locs hP hD hS => ?_)
            refine lv_iinc (v := nI (k + 1)) (lv' := [(4, .int (nI (k + 1))), (0, .ref g), (1, .long v), (3, .int (nI (r_vn v)))]) hx hb d_Model_addVarint_66 hl (k := 3) rfl (zinc k 1) (by decide) rfl (fun ls hl => ?_)
            refine lv_goto (tgt := 28) hx hb d_Model_addVarint_69 (by decide) ?_
            exact ih28 (k + 1) (by omega) (by omega) _ _ (by rw [r_avl, r_avb]; first | (rw [if_pos c_52]; exact hP) | (rw [if_neg (by omega)]; exact hP)) (by rw [r_avl, r_avb]; first | (rw [if_pos c_52]; exact hD) | (rw [if_neg (by omega)]; exact hD)) hS ls (lv_sub hl [1, 2, 3, 0] rfl)
          · skip
            refine lv_sipush (v := nI 128) hx hb d_Model_addVarint_55 (by decide +kernel) ?_
            refine lv_goto (tgt := 62) hx hb d_Model_addVarint_58 (by decide) ?_
            refine lv_iadd hx hb d_Model_addVarint_62 ?_
            refine z_callEv (wr := []) (w2 := [(g, .inr (4, [.int cd, .ref mr, .ref ms, .int (nI n0), .ref mb, .int (nI ((r_add (r_avl v (r_vn v) k b) ((((zushr v (nI (7 * k))) &&& (127)).toInt32) + (nI 128))).2)), .int z.2.2, .ref ml, .ref mn, .ref mw, .ref mt, .ref mv, .ref mu, .int (nI bl), .int (nI z.1), .int (nI z.2.1)])), (mb, .inl (cI, 20000, .inl ((r_add (r_avl v (r_vn v) k b) ((((zushr v (nI (7 * k))) &&& (127)).toInt32) + (nI 128))).1)))]) (z_runV (rest := []) hx hb hml hown hts hK hN (c_Model_add l D cI cJ g mr ms mb ml mn mw mt mv mu cd n0 bl z (r_avl v (r_vn v) k b) ((((zushr v (nI (7 * k))) &&& (127)).toInt32) + (nI 128)) (by (try dsimp only); omega)) kk_Model_53 (zP.cut hP [0, 1] rfl) (hD.sub [0, 1] (by decide) rfl) 0 rfl rfl rfl hl.1 rfl (Nat.le_of_ble_eq_true rfl) d_Model_addVarint_63 (by decide) (by decide)) hP hD hS hA [0, 1] [] [0, 1] rfl rfl (by decide) (by decide) (by decide) rfl (fun H locs hP hD hS => ?_)
            refine lv_iinc (v := nI (k + 1)) (lv' := [(4, .int (nI (k + 1))), (0, .ref g), (1, .long v), (3, .int (nI (r_vn v)))]) hx hb d_Model_addVarint_66 hl (k := 3) rfl (zinc k 1) (by decide) rfl (fun ls hl => ?_)
            refine lv_goto (tgt := 28) hx hb d_Model_addVarint_69 (by decide) ?_
            exact ih28 (k + 1) (by omega) (by omega) _ _ (by rw [r_avl, r_avb]; first | (rw [if_pos c_52]; exact hP) | (rw [if_neg (by omega)]; exact hP)) (by rw [r_avl, r_avb]; first | (rw [if_pos c_52]; exact hD) | (rw [if_neg (by omega)]; exact hD)) hS ls (lv_sub hl [1, 2, 3, 0] rfl)
    exact hlp28 _ 0 (Nat.zero_le _) (Nat.lt_succ_self _) _ _ hP hD hS ls (lv_sub hl [1, 2, 3, 0] rfl)
  refine lv_iconst (v := nI 1) hx hb d_Model_addVarint_0 (by decide +kernel) ?_
  refine lv_istore_n (lv' := [(3, .int (nI 1)), (0, .ref g), (1, .long v)]) hx hb d_Model_addVarint_1 rfl hl (by decide) rfl (fun ls hl => ?_)
  have hlp2 : ∀ (n : Nat) (i : Nat), (1 ≤ i ∧ i ≤ 10) → (r_vnl v (10 - i) i = r_vn v) → 10 - i < n → ∀ (H : Heap) (locs : List Loc), va_P D classes [(g, .inr (4, [.int cd, .ref mr, .ref ms, .int (nI n0), .ref mb, .int (nI b.2), .int z.2.2, .ref ml, .ref mn, .ref mw, .ref mt, .ref mv, .ref mu, .int (nI bl), .int (nI z.1), .int (nI z.2.1)])), (mb, .inl (cI, 20000, .inl b.1))] H → va_D A [(g, .inr (4, [.int cd, .ref mr, .ref ms, .int (nI n0), .ref mb, .int (nI b.2), .int z.2.2, .ref ml, .ref mn, .ref mw, .ref mt, .ref mv, .ref mu, .int (nI bl), .int (nI z.1), .int (nI z.2.1)])), (mb, .inl (cI, 20000, .inl b.1))] → va_S A s.heap H locs → ∀ (ls : Array Slot), lv_has ls 5 [(0, .ref g), (1, .long v), (3, .int (nI i))] → W p l e { frames := 1, cells := 0, slots := 0, locals := 21 } s m ([.ref g, .long v] : List Value).toArray below meth c H locs 0 0 (MQ below (zQ D (zEq none [(g, .inr (4, [.int cd, .ref mr, .ref ms, .int (nI n0), .ref mb, .int (nI ((r_av b v).2)), .int z.2.2, .ref ml, .ref mn, .ref mw, .ref mt, .ref mv, .ref mu, .int (nI bl), .int (nI z.1), .int (nI z.2.1)])), (mb, .inl (cI, 20000, .inl ((r_av b v).1)))]) A) ([.ref g, .long v] : List Value).toArray s 0 0 A) (F0 m 2 ls []) := by
    intro n
    induction n with
    | zero => intro i h1 hR hmu; exact absurd hmu (Nat.not_lt_zero _)
    | succ n ih =>
      intro i h1 hR hmu H locs hP hD hS ls hl
      have ih2 := ih
      refine lv_iload_n hx hb d_Model_addVarint_2 rfl (lv_at hl 2 rfl) ?_
      refine lv_bipush (v := nI 10) hx hb d_Model_addVarint_3 (by decide +kernel) ?_
      refine zn_ge (a := i) (b := 10) (by omega) (by omega) hx hb d_Model_addVarint_5 (tgt := 25) (by decide) (fun c_5 => ?_) (fun c_5 => ?_)
      · skip
        have hX : i = r_vn v := by rw [← hR]; first | (rw [show 10 - i = 0 by omega]; rfl) | (rw [show 10 - i = (10 - (i + 1)) + 1 by omega, r_vnl, if_pos c_15])
        rw [hX] at hl
        exact hj25   _ _ hP hD hS ls (lv_sub hl [0, 1, 2] rfl)
      · skip
        refine lv_lload_n hx hb d_Model_addVarint_8 rfl (lv_at hl 1 rfl) ?_
        refine lv_bipush (v := nI 7) hx hb d_Model_addVarint_9 (by decide +kernel) ?_
        refine lv_iload_n hx hb d_Model_addVarint_11 rfl (lv_at hl 2 rfl) ?_
        refine lv_imul hx hb d_Model_addVarint_12 (z_i (pk_mul 7 i) ?_)
        refine lv_lushr (v := zushr v (nI (7 * i))) hx hb d_Model_addVarint_13 rfl ?_
        refine lv_lconst (v := 0) hx hb d_Model_addVarint_14 (by decide +kernel) ?_
        refine zl_eq hx hb d_Model_addVarint_15 d_Model_addVarint_16 (tgt := 25) (by decide) (fun c_15 => ?_) (fun c_15 => ?_)
        · skip
          have hX : i = r_vn v := by rw [← hR]; first | (rw [show 10 - i = 0 by omega]; rfl) | (rw [show 10 - i = (10 - (i + 1)) + 1 by omega, r_vnl, if_pos c_15])
          rw [hX] at hl
          exact hj25   _ _ hP hD hS ls (lv_sub hl [0, 1, 2] rfl)
        · skip
          refine lv_iinc (v := nI (i + 1)) (lv' := [(3, .int (nI (i + 1))), (0, .ref g), (1, .long v)]) hx hb d_Model_addVarint_19 hl (k := 2) rfl (zinc i 1) (by decide) rfl (fun ls hl => ?_)
          refine lv_goto (tgt := 2) hx hb d_Model_addVarint_22 (by decide) ?_
          exact ih2 (i + 1) (by omega) (by rw [show 10 - i = (10 - (i + 1)) + 1 by omega, r_vnl, if_neg c_15] at hR; exact hR) (by omega) _ _ hP hD hS ls (lv_sub hl [1, 2, 0] rfl)
  exact hlp2 _ 1 (by omega) rfl (Nat.lt_succ_self _) _ _ hP hD hS ls (lv_sub hl [1, 2, 0] rfl)
end
