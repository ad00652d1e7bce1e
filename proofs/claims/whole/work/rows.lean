section
-- ===== PART A: goes FIRST, ahead of the names: the tables' words, and 'selects' of the private methods out of them =====
/-- a private method of a class that the tables say can be made, by its rows of tables_1 -/
def lw_okq (q : MethodName × Nat) : Prop := (q.1.cls ≠ "java/lang/invoke/MethodHandle" ∧ q.1.cls ≠ "java/lang/invoke/VarHandle") ∧ Cond.instantiable q.1.cls q.2 ∈ tables_1 ∧ Cond.privateMethod q.1 ∈ tables_1 ∧ Cond.instanceMethod q.1 ∈ tables_1
theorem lw_p0 : lw_okq (⟨"DeltaRows$ByteRow", "hasRoom", "(II)Z"⟩, 2) := ⟨⟨by decide +kernel, by decide +kernel⟩, List.mem_of_getElem? (i := 18) (by decide +kernel), List.mem_of_getElem? (i := 152) (by decide +kernel), List.mem_of_getElem? (i := 153) (by decide +kernel)⟩
theorem lw_p1 : lw_okq (⟨"DeltaRows", "writeBlock", "(I)V"⟩, 6) := ⟨⟨by decide +kernel, by decide +kernel⟩, List.mem_of_getElem? (i := 10) (by decide +kernel), List.mem_of_getElem? (i := 167) (by decide +kernel), List.mem_of_getElem? (i := 168) (by decide +kernel)⟩
theorem lw_p2 : lw_okq (⟨"DeltaRows", "leastDifference", "(I)J"⟩, 6) := ⟨⟨by decide +kernel, by decide +kernel⟩, List.mem_of_getElem? (i := 10) (by decide +kernel), List.mem_of_getElem? (i := 171) (by decide +kernel), List.mem_of_getElem? (i := 172) (by decide +kernel)⟩
theorem lw_p3 : lw_okq (⟨"DeltaRows", "neededWidth", "(II)I"⟩, 6) := ⟨⟨by decide +kernel, by decide +kernel⟩, List.mem_of_getElem? (i := 10) (by decide +kernel), List.mem_of_getElem? (i := 184) (by decide +kernel), List.mem_of_getElem? (i := 185) (by decide +kernel)⟩
theorem lw_p4 : lw_okq (⟨"DeltaRows", "writePart", "(II)V"⟩, 6) := ⟨⟨by decide +kernel, by decide +kernel⟩, List.mem_of_getElem? (i := 10) (by decide +kernel), List.mem_of_getElem? (i := 196) (by decide +kernel), List.mem_of_getElem? (i := 197) (by decide +kernel)⟩
theorem lw_p5 : lw_okq (⟨"DeltaRows$Scan", "lookAtHead", "()V"⟩, 6) := ⟨⟨by decide +kernel, by decide +kernel⟩, List.mem_of_getElem? (i := 34) (by decide +kernel), List.mem_of_getElem? (i := 212) (by decide +kernel), List.mem_of_getElem? (i := 213) (by decide +kernel)⟩
theorem lw_p6 : lw_okq (⟨"DeltaRows$Scan", "nextVarint", "()J"⟩, 6) := ⟨⟨by decide +kernel, by decide +kernel⟩, List.mem_of_getElem? (i := 34) (by decide +kernel), List.mem_of_getElem? (i := 216) (by decide +kernel), List.mem_of_getElem? (i := 217) (by decide +kernel)⟩
theorem lw_p7 : lw_okq (⟨"DeltaRows$Scan", "nextByte", "()I"⟩, 6) := ⟨⟨by decide +kernel, by decide +kernel⟩, List.mem_of_getElem? (i := 34) (by decide +kernel), List.mem_of_getElem? (i := 220) (by decide +kernel), List.mem_of_getElem? (i := 221) (by decide +kernel)⟩
theorem lw_p8 : lw_okq (⟨"DeltaRows$Scan", "refuse", "(II)V"⟩, 6) := ⟨⟨by decide +kernel, by decide +kernel⟩, List.mem_of_getElem? (i := 34) (by decide +kernel), List.mem_of_getElem? (i := 228) (by decide +kernel), List.mem_of_getElem? (i := 229) (by decide +kernel)⟩
theorem lw_p9 : lw_okq (⟨"DeltaRows$Scan", "isFaultless", "()Z"⟩, 6) := ⟨⟨by decide +kernel, by decide +kernel⟩, List.mem_of_getElem? (i := 34) (by decide +kernel), List.mem_of_getElem? (i := 240) (by decide +kernel), List.mem_of_getElem? (i := 241) (by decide +kernel)⟩
theorem lw_p10 : lw_okq (⟨"DeltaRows$Scan", "lookAtBlock", "(LDeltaRows$Layout;I)V"⟩, 6) := ⟨⟨by decide +kernel, by decide +kernel⟩, List.mem_of_getElem? (i := 34) (by decide +kernel), List.mem_of_getElem? (i := 250) (by decide +kernel), List.mem_of_getElem? (i := 251) (by decide +kernel)⟩
theorem lw_p11 : lw_okq (⟨"DeltaRows$Scan", "longsOf", "(II)I"⟩, 6) := ⟨⟨by decide +kernel, by decide +kernel⟩, List.mem_of_getElem? (i := 34) (by decide +kernel), List.mem_of_getElem? (i := 254) (by decide +kernel), List.mem_of_getElem? (i := 255) (by decide +kernel)⟩
theorem lw_p12 : lw_okq (⟨"DeltaRows$Scan", "nextWidth", "(I)I"⟩, 6) := ⟨⟨by decide +kernel, by decide +kernel⟩, List.mem_of_getElem? (i := 34) (by decide +kernel), List.mem_of_getElem? (i := 259) (by decide +kernel), List.mem_of_getElem? (i := 260) (by decide +kernel)⟩
theorem lw_p13 : lw_okq (⟨"DeltaRows$Scan", "passPart", "(II)V"⟩, 6) := ⟨⟨by decide +kernel, by decide +kernel⟩, List.mem_of_getElem? (i := 34) (by decide +kernel), List.mem_of_getElem? (i := 263) (by decide +kernel), List.mem_of_getElem? (i := 264) (by decide +kernel)⟩
theorem lw_p14 : lw_okq (⟨"DeltaRows", "takeRow", "()V"⟩, 6) := ⟨⟨by decide +kernel, by decide +kernel⟩, List.mem_of_getElem? (i := 10) (by decide +kernel), List.mem_of_getElem? (i := 269) (by decide +kernel), List.mem_of_getElem? (i := 270) (by decide +kernel)⟩
theorem lw_p15 : lw_okq (⟨"DeltaRows", "takePart", "(II)V"⟩, 6) := ⟨⟨by decide +kernel, by decide +kernel⟩, List.mem_of_getElem? (i := 10) (by decide +kernel), List.mem_of_getElem? (i := 273) (by decide +kernel), List.mem_of_getElem? (i := 274) (by decide +kernel)⟩
def lw_privs_1 : List (MethodName × Nat) := [(⟨"DeltaRows$ByteRow", "hasRoom", "(II)Z"⟩, 2), (⟨"DeltaRows", "writeBlock", "(I)V"⟩, 6), (⟨"DeltaRows", "leastDifference", "(I)J"⟩, 6), (⟨"DeltaRows", "neededWidth", "(II)I"⟩, 6), (⟨"DeltaRows", "writePart", "(II)V"⟩, 6), (⟨"DeltaRows$Scan", "lookAtHead", "()V"⟩, 6), (⟨"DeltaRows$Scan", "nextVarint", "()J"⟩, 6), (⟨"DeltaRows$Scan", "nextByte", "()I"⟩, 6), (⟨"DeltaRows$Scan", "refuse", "(II)V"⟩, 6), (⟨"DeltaRows$Scan", "isFaultless", "()Z"⟩, 6), (⟨"DeltaRows$Scan", "lookAtBlock", "(LDeltaRows$Layout;I)V"⟩, 6), (⟨"DeltaRows$Scan", "longsOf", "(II)I"⟩, 6), (⟨"DeltaRows$Scan", "nextWidth", "(I)I"⟩, 6), (⟨"DeltaRows$Scan", "passPart", "(II)V"⟩, 6), (⟨"DeltaRows", "takeRow", "()V"⟩, 6), (⟨"DeltaRows", "takePart", "(II)V"⟩, 6)]
theorem lw_r1 : ∀ q ∈ lw_privs_1, lw_okq q := List.forall_mem_cons.mpr ⟨lw_p0, List.forall_mem_cons.mpr ⟨lw_p1, List.forall_mem_cons.mpr ⟨lw_p2, List.forall_mem_cons.mpr ⟨lw_p3, List.forall_mem_cons.mpr ⟨lw_p4, List.forall_mem_cons.mpr ⟨lw_p5, List.forall_mem_cons.mpr ⟨lw_p6, List.forall_mem_cons.mpr ⟨lw_p7, List.forall_mem_cons.mpr ⟨lw_p8, List.forall_mem_cons.mpr ⟨lw_p9, List.forall_mem_cons.mpr ⟨lw_p10, List.forall_mem_cons.mpr ⟨lw_p11, List.forall_mem_cons.mpr ⟨lw_p12, List.forall_mem_cons.mpr ⟨lw_p13, List.forall_mem_cons.mpr ⟨lw_p14, List.forall_mem_cons.mpr ⟨lw_p15, fun _ h => absurd h List.not_mem_nil⟩⟩⟩⟩⟩⟩⟩⟩⟩⟩⟩⟩⟩⟩⟩⟩
theorem lw_p16 : lw_okq (⟨"DeltaRowsModel", "addVarint", "(J)V"⟩, 16) := ⟨⟨by decide +kernel, by decide +kernel⟩, List.mem_of_getElem? (i := 330) (by decide +kernel), List.mem_of_getElem? (i := 405) (by decide +kernel), List.mem_of_getElem? (i := 406) (by decide +kernel)⟩
theorem lw_p17 : lw_okq (⟨"DeltaRowsModel", "add", "(I)V"⟩, 16) := ⟨⟨by decide +kernel, by decide +kernel⟩, List.mem_of_getElem? (i := 330) (by decide +kernel), List.mem_of_getElem? (i := 410) (by decide +kernel), List.mem_of_getElem? (i := 411) (by decide +kernel)⟩
theorem lw_p18 : lw_okq (⟨"DeltaRowsModel", "difference", "(I)J"⟩, 16) := ⟨⟨by decide +kernel, by decide +kernel⟩, List.mem_of_getElem? (i := 330) (by decide +kernel), List.mem_of_getElem? (i := 419) (by decide +kernel), List.mem_of_getElem? (i := 420) (by decide +kernel)⟩
theorem lw_p19 : lw_okq (⟨"DeltaRowsModel", "varint", "()J"⟩, 16) := ⟨⟨by decide +kernel, by decide +kernel⟩, List.mem_of_getElem? (i := 330) (by decide +kernel), List.mem_of_getElem? (i := 427) (by decide +kernel), List.mem_of_getElem? (i := 428) (by decide +kernel)⟩
theorem lw_p20 : lw_okq (⟨"DeltaRowsModel", "next", "()I"⟩, 16) := ⟨⟨by decide +kernel, by decide +kernel⟩, List.mem_of_getElem? (i := 330) (by decide +kernel), List.mem_of_getElem? (i := 431) (by decide +kernel), List.mem_of_getElem? (i := 432) (by decide +kernel)⟩
theorem lw_p21 : lw_okq (⟨"DeltaRowsModel", "fail", "(II)V"⟩, 16) := ⟨⟨by decide +kernel, by decide +kernel⟩, List.mem_of_getElem? (i := 330) (by decide +kernel), List.mem_of_getElem? (i := 435) (by decide +kernel), List.mem_of_getElem? (i := 436) (by decide +kernel)⟩
theorem lw_p22 : lw_okq (⟨"DeltaRowsModel", "readBlock", "(III)V"⟩, 16) := ⟨⟨by decide +kernel, by decide +kernel⟩, List.mem_of_getElem? (i := 330) (by decide +kernel), List.mem_of_getElem? (i := 443) (by decide +kernel), List.mem_of_getElem? (i := 444) (by decide +kernel)⟩
def lw_privs_2 : List (MethodName × Nat) := [(⟨"DeltaRowsModel", "addVarint", "(J)V"⟩, 16), (⟨"DeltaRowsModel", "add", "(I)V"⟩, 16), (⟨"DeltaRowsModel", "difference", "(I)J"⟩, 16), (⟨"DeltaRowsModel", "varint", "()J"⟩, 16), (⟨"DeltaRowsModel", "next", "()I"⟩, 16), (⟨"DeltaRowsModel", "fail", "(II)V"⟩, 16), (⟨"DeltaRowsModel", "readBlock", "(III)V"⟩, 16)]
theorem lw_r2 : ∀ q ∈ lw_privs_2, lw_okq q := List.forall_mem_cons.mpr ⟨lw_p16, List.forall_mem_cons.mpr ⟨lw_p17, List.forall_mem_cons.mpr ⟨lw_p18, List.forall_mem_cons.mpr ⟨lw_p19, List.forall_mem_cons.mpr ⟨lw_p20, List.forall_mem_cons.mpr ⟨lw_p21, List.forall_mem_cons.mpr ⟨lw_p22, fun _ h => absurd h List.not_mem_nil⟩⟩⟩⟩⟩⟩⟩
def lw_privs : List (MethodName × Nat) := lw_privs_1 ++ (lw_privs_2)
def lw_tbl : List Cond := k2_sels lw_privs ++ tables_1
theorem lw_privs_ok : ∀ q ∈ lw_privs, lw_okq q := by
  show ∀ q ∈ lw_privs_1 ++ (lw_privs_2), lw_okq q
  exact List.forall_mem_append.mpr ⟨lw_r1, lw_r2⟩
end
section
/-! names, field tables, the words by their places -/
def R_ByteRow : String := "DeltaRows$ByteRow"
def R_Layout : String := "DeltaRows$Layout"
def R_Scan : String := "DeltaRows$Scan"
def R_DeltaRows : String := "DeltaRows"
def R_Model : String := "DeltaRowsModel"
def R_Integer : String := "java/lang/Integer"
def R_Long : String := "java/lang/Long"
def R_Math : String := "java/lang/Math"
def F_ByteRow : u_T := fun k => match k with
  | 0 => ("DeltaRows$ByteRow", "words", "[J", true)
  | _ => ("DeltaRows$ByteRow", "used", "I", false)
def t_ByteRow : Nat → FieldType := fun k => match k with
  | 0 => .array .long
  | _ => .int
theorem n_ByteRow : ∀ a, a < 2 → ∀ b, b < 2 → a ≠ b → (F_ByteRow a).2.1 ≠ (F_ByteRow b).2.1 := by decide +kernel
theorem t_ByteRow_ok : ∀ k, k < 2 → parseFieldDescriptor (F_ByteRow k).2.2.1 = some (t_ByteRow k) := by decide +kernel
def F_Layout : u_T := fun k => match k with
  | 0 => ("DeltaRows$Layout", "blockCount", "I", false)
  | 1 => ("DeltaRows$Layout", "leasts", "[J", true)
  | 2 => ("DeltaRows$Layout", "widths", "[I", true)
  | _ => ("DeltaRows$Layout", "starts", "[I", true)
def t_Layout : Nat → FieldType := fun k => match k with
  | 0 => .int
  | 1 => .array .long
  | 2 => .array .int
  | _ => .array .int
theorem n_Layout : ∀ a, a < 4 → ∀ b, b < 4 → a ≠ b → (F_Layout a).2.1 ≠ (F_Layout b).2.1 := by decide +kernel
theorem t_Layout_ok : ∀ k, k < 4 → parseFieldDescriptor (F_Layout k).2.2.1 = some (t_Layout k) := by decide +kernel
def F_Scan : u_T := fun k => match k with
  | 0 => ("DeltaRows$Scan", "bytes", "LDeltaRows$ByteRow;", true)
  | 1 => ("DeltaRows$Scan", "at", "I", false)
  | 2 => ("DeltaRows$Scan", "fault", "I", false)
  | 3 => ("DeltaRows$Scan", "faultPlace", "I", false)
  | 4 => ("DeltaRows$Scan", "total", "I", false)
  | _ => ("DeltaRows$Scan", "first", "J", false)
def t_Scan : Nat → FieldType := fun k => match k with
  | 0 => .object "DeltaRows$ByteRow"
  | 1 => .int
  | 2 => .int
  | 3 => .int
  | 4 => .int
  | _ => .long
theorem n_Scan : ∀ a, a < 6 → ∀ b, b < 6 → a ≠ b → (F_Scan a).2.1 ≠ (F_Scan b).2.1 := by decide +kernel
theorem t_Scan_ok : ∀ k, k < 6 → parseFieldDescriptor (F_Scan k).2.2.1 = some (t_Scan k) := by decide +kernel
def F_DeltaRows : u_T := fun k => match k with
  | 0 => ("DeltaRows", "row", "[J", true)
  | 1 => ("DeltaRows", "rowCount", "I", false)
  | 2 => ("DeltaRows", "bytes", "LDeltaRows$ByteRow;", true)
  | 3 => ("DeltaRows", "scan", "LDeltaRows$Scan;", true)
  | 4 => ("DeltaRows", "layout", "LDeltaRows$Layout;", false)
  | _ => ("DeltaRows", "spareLayout", "LDeltaRows$Layout;", false)
def t_DeltaRows : Nat → FieldType := fun k => match k with
  | 0 => .array .long
  | 1 => .int
  | 2 => .object "DeltaRows$ByteRow"
  | 3 => .object "DeltaRows$Scan"
  | 4 => .object "DeltaRows$Layout"
  | _ => .object "DeltaRows$Layout"
theorem n_DeltaRows : ∀ a, a < 6 → ∀ b, b < 6 → a ≠ b → (F_DeltaRows a).2.1 ≠ (F_DeltaRows b).2.1 := by decide +kernel
theorem t_DeltaRows_ok : ∀ k, k < 6 → parseFieldDescriptor (F_DeltaRows k).2.2.1 = some (t_DeltaRows k) := by decide +kernel
def F_Model : u_T := fun k => match k with
  | 0 => ("DeltaRowsModel", "code", "I", false)
  | 1 => ("DeltaRowsModel", "row", "[J", true)
  | 2 => ("DeltaRowsModel", "spare", "[J", true)
  | 3 => ("DeltaRowsModel", "count", "I", false)
  | 4 => ("DeltaRowsModel", "bytes", "[I", true)
  | 5 => ("DeltaRowsModel", "size", "I", false)
  | 6 => ("DeltaRowsModel", "place", "I", false)
  | 7 => ("DeltaRowsModel", "leasts", "[J", true)
  | 8 => ("DeltaRowsModel", "newLeasts", "[J", true)
  | 9 => ("DeltaRowsModel", "widths", "[I", true)
  | 10 => ("DeltaRowsModel", "starts", "[I", true)
  | 11 => ("DeltaRowsModel", "newWidths", "[I", true)
  | 12 => ("DeltaRowsModel", "newStarts", "[I", true)
  | 13 => ("DeltaRowsModel", "blocks", "I", false)
  | 14 => ("DeltaRowsModel", "at", "I", false)
  | _ => ("DeltaRowsModel", "fault", "I", false)
def t_Model : Nat → FieldType := fun k => match k with
  | 0 => .int
  | 1 => .array .long
  | 2 => .array .long
  | 3 => .int
  | 4 => .array .int
  | 5 => .int
  | 6 => .int
  | 7 => .array .long
  | 8 => .array .long
  | 9 => .array .int
  | 10 => .array .int
  | 11 => .array .int
  | 12 => .array .int
  | 13 => .int
  | 14 => .int
  | _ => .int
theorem n_Model : ∀ a, a < 16 → ∀ b, b < 16 → a ≠ b → (F_Model a).2.1 ≠ (F_Model b).2.1 := by decide +kernel
theorem t_Model_ok : ∀ k, k < 16 → parseFieldDescriptor (F_Model k).2.2.1 = some (t_Model k) := by decide +kernel
abbrev b_DeltaRows_init : ByteArray := prog_1_method_1_code
def y_DeltaRows_init : MethodName := ⟨R_DeltaRows, "<init>", "()V"⟩
abbrev b_ByteRow_init : ByteArray := prog_2_method_1_code
def y_ByteRow_init : MethodName := ⟨R_ByteRow, "<init>", "()V"⟩
abbrev b_Scan_init : ByteArray := prog_4_method_1_code
def y_Scan_init : MethodName := ⟨R_Scan, "<init>", "(LDeltaRows$ByteRow;)V"⟩
abbrev b_Layout_init : ByteArray := prog_3_method_1_code
def y_Layout_init : MethodName := ⟨R_Layout, "<init>", "()V"⟩
abbrev b_DeltaRows_put : ByteArray := prog_1_method_2_code
def y_DeltaRows_put : MethodName := ⟨R_DeltaRows, "put", "(J)Z"⟩
abbrev b_DeltaRows_clear : ByteArray := prog_1_method_3_code
def y_DeltaRows_clear : MethodName := ⟨R_DeltaRows, "clear", "()V"⟩
abbrev b_DeltaRows_count : ByteArray := prog_1_method_4_code
def y_DeltaRows_count : MethodName := ⟨R_DeltaRows, "count", "()I"⟩
abbrev b_DeltaRows_get : ByteArray := prog_1_method_5_code
def y_DeltaRows_get : MethodName := ⟨R_DeltaRows, "get", "(I)J"⟩
abbrev b_DeltaRows_write : ByteArray := prog_1_method_6_code
def y_DeltaRows_write : MethodName := ⟨R_DeltaRows, "write", "()I"⟩
abbrev b_ByteRow_shorten : ByteArray := prog_2_method_7_code
def y_ByteRow_shorten : MethodName := ⟨R_ByteRow, "shorten", "(I)V"⟩
abbrev b_ByteRow_addVarint : ByteArray := prog_2_method_6_code
def y_ByteRow_addVarint : MethodName := ⟨R_ByteRow, "addVarint", "(J)V"⟩
abbrev b_ByteRow_add : ByteArray := prog_2_method_5_code
def y_ByteRow_add : MethodName := ⟨R_ByteRow, "add", "(I)Z"⟩
abbrev b_ByteRow_change : ByteArray := prog_2_method_4_code
def y_ByteRow_change : MethodName := ⟨R_ByteRow, "change", "(II)V"⟩
abbrev b_ByteRow_setBits : ByteArray := prog_2_method_9_code
def y_ByteRow_setBits : MethodName := ⟨R_ByteRow, "setBits", "(IIJ)V"⟩
abbrev b_ByteRow_hasRoom : ByteArray := prog_2_method_10_code
def y_ByteRow_hasRoom : MethodName := ⟨R_ByteRow, "hasRoom", "(II)Z"⟩
abbrev b_ByteRow_maskOf : ByteArray := prog_2_method_11_code
def y_ByteRow_maskOf : MethodName := ⟨R_ByteRow, "maskOf", "(I)J"⟩
abbrev b_DeltaRows_zigzag : ByteArray := prog_1_method_27_code
def y_DeltaRows_zigzag : MethodName := ⟨R_DeltaRows, "zigzag", "(J)J"⟩
abbrev b_DeltaRows_blocksFor : ByteArray := prog_1_method_24_code
def y_DeltaRows_blocksFor : MethodName := ⟨R_DeltaRows, "blocksFor", "(I)I"⟩
abbrev b_DeltaRows_writeBlock : ByteArray := prog_1_method_18_code
def y_DeltaRows_writeBlock : MethodName := ⟨R_DeltaRows, "writeBlock", "(I)V"⟩
abbrev b_DeltaRows_leastDifference : ByteArray := prog_1_method_19_code
def y_DeltaRows_leastDifference : MethodName := ⟨R_DeltaRows, "leastDifference", "(I)J"⟩
abbrev b_DeltaRows_partEdge : ByteArray := prog_1_method_25_code
def y_DeltaRows_partEdge : MethodName := ⟨R_DeltaRows, "partEdge", "(III)I"⟩
abbrev b_DeltaRows_neededWidth : ByteArray := prog_1_method_20_code
def y_DeltaRows_neededWidth : MethodName := ⟨R_DeltaRows, "neededWidth", "(II)I"⟩
abbrev b_Long_numberOfLeadingZeros : ByteArray := prog_8_method_48_code
def y_Long_numberOfLeadingZeros : MethodName := ⟨R_Long, "numberOfLeadingZeros", "(J)I"⟩
abbrev b_Integer_numberOfLeadingZeros : ByteArray := prog_7_method_47_code
def y_Integer_numberOfLeadingZeros : MethodName := ⟨R_Integer, "numberOfLeadingZeros", "(I)I"⟩
abbrev b_DeltaRows_writePart : ByteArray := prog_1_method_21_code
def y_DeltaRows_writePart : MethodName := ⟨R_DeltaRows, "writePart", "(II)V"⟩
abbrev b_DeltaRows_partBytes : ByteArray := prog_1_method_26_code
def y_DeltaRows_partBytes : MethodName := ⟨R_DeltaRows, "partBytes", "(I)I"⟩
abbrev b_DeltaRows_read : ByteArray := prog_1_method_7_code
def y_DeltaRows_read : MethodName := ⟨R_DeltaRows, "read", "()I"⟩
abbrev b_Scan_lookThrough : ByteArray := prog_4_method_2_code
def y_Scan_lookThrough : MethodName := ⟨R_Scan, "lookThrough", "(LDeltaRows$Layout;)V"⟩
abbrev b_Scan_lookAtHead : ByteArray := prog_4_method_3_code
def y_Scan_lookAtHead : MethodName := ⟨R_Scan, "lookAtHead", "()V"⟩
abbrev b_Scan_nextVarint : ByteArray := prog_4_method_8_code
def y_Scan_nextVarint : MethodName := ⟨R_Scan, "nextVarint", "()J"⟩
abbrev b_Scan_nextByte : ByteArray := prog_4_method_9_code
def y_Scan_nextByte : MethodName := ⟨R_Scan, "nextByte", "()I"⟩
abbrev b_ByteRow_has : ByteArray := prog_2_method_2_code
def y_ByteRow_has : MethodName := ⟨R_ByteRow, "has", "(I)Z"⟩
abbrev b_Scan_refuse : ByteArray := prog_4_method_11_code
def y_Scan_refuse : MethodName := ⟨R_Scan, "refuse", "(II)V"⟩
abbrev b_ByteRow_byteIn : ByteArray := prog_2_method_3_code
def y_ByteRow_byteIn : MethodName := ⟨R_ByteRow, "byteIn", "(I)I"⟩
abbrev b_ByteRow_bitsIn : ByteArray := prog_2_method_8_code
def y_ByteRow_bitsIn : MethodName := ⟨R_ByteRow, "bitsIn", "(II)J"⟩
abbrev b_Scan_isFaultless : ByteArray := prog_4_method_10_code
def y_Scan_isFaultless : MethodName := ⟨R_Scan, "isFaultless", "()Z"⟩
abbrev b_DeltaRows_unzigzag : ByteArray := prog_1_method_28_code
def y_DeltaRows_unzigzag : MethodName := ⟨R_DeltaRows, "unzigzag", "(J)J"⟩
abbrev b_Scan_lookAtBlock : ByteArray := prog_4_method_4_code
def y_Scan_lookAtBlock : MethodName := ⟨R_Scan, "lookAtBlock", "(LDeltaRows$Layout;I)V"⟩
abbrev b_Scan_longsOf : ByteArray := prog_4_method_5_code
def y_Scan_longsOf : MethodName := ⟨R_Scan, "longsOf", "(II)I"⟩
abbrev b_Scan_nextWidth : ByteArray := prog_4_method_6_code
def y_Scan_nextWidth : MethodName := ⟨R_Scan, "nextWidth", "(I)I"⟩
abbrev b_Scan_passPart : ByteArray := prog_4_method_7_code
def y_Scan_passPart : MethodName := ⟨R_Scan, "passPart", "(II)V"⟩
abbrev b_DeltaRows_takeRow : ByteArray := prog_1_method_22_code
def y_DeltaRows_takeRow : MethodName := ⟨R_DeltaRows, "takeRow", "()V"⟩
abbrev b_DeltaRows_takePart : ByteArray := prog_1_method_23_code
def y_DeltaRows_takePart : MethodName := ⟨R_DeltaRows, "takePart", "(II)V"⟩
abbrev b_DeltaRows_place : ByteArray := prog_1_method_8_code
def y_DeltaRows_place : MethodName := ⟨R_DeltaRows, "place", "()I"⟩
abbrev b_DeltaRows_size : ByteArray := prog_1_method_9_code
def y_DeltaRows_size : MethodName := ⟨R_DeltaRows, "size", "()I"⟩
abbrev b_DeltaRows_byteAt : ByteArray := prog_1_method_10_code
def y_DeltaRows_byteAt : MethodName := ⟨R_DeltaRows, "byteAt", "(I)I"⟩
abbrev b_DeltaRows_setByte : ByteArray := prog_1_method_11_code
def y_DeltaRows_setByte : MethodName := ⟨R_DeltaRows, "setByte", "(II)Z"⟩
abbrev b_DeltaRows_append : ByteArray := prog_1_method_12_code
def y_DeltaRows_append : MethodName := ⟨R_DeltaRows, "append", "(I)Z"⟩
abbrev b_DeltaRows_cut : ByteArray := prog_1_method_13_code
def y_DeltaRows_cut : MethodName := ⟨R_DeltaRows, "cut", "(I)Z"⟩
abbrev b_DeltaRows_blocks : ByteArray := prog_1_method_14_code
def y_DeltaRows_blocks : MethodName := ⟨R_DeltaRows, "blocks", "()I"⟩
abbrev b_DeltaRows_least : ByteArray := prog_1_method_15_code
def y_DeltaRows_least : MethodName := ⟨R_DeltaRows, "least", "(I)J"⟩
abbrev b_Layout_hasBlock : ByteArray := prog_3_method_2_code
def y_Layout_hasBlock : MethodName := ⟨R_Layout, "hasBlock", "(I)Z"⟩
abbrev b_DeltaRows_width : ByteArray := prog_1_method_16_code
def y_DeltaRows_width : MethodName := ⟨R_DeltaRows, "width", "(II)I"⟩
abbrev b_Layout_hasPart : ByteArray := prog_3_method_3_code
def y_Layout_hasPart : MethodName := ⟨R_Layout, "hasPart", "(II)Z"⟩
abbrev b_DeltaRows_start : ByteArray := prog_1_method_17_code
def y_DeltaRows_start : MethodName := ⟨R_DeltaRows, "start", "(II)I"⟩
abbrev b_Model_init : ByteArray := prog_6_method_1_code
def y_Model_init : MethodName := ⟨R_Model, "<init>", "()V"⟩
abbrev b_Model_put : ByteArray := prog_6_method_3_code
def y_Model_put : MethodName := ⟨R_Model, "put", "(J)Z"⟩
abbrev b_Model_clear : ByteArray := prog_6_method_4_code
def y_Model_clear : MethodName := ⟨R_Model, "clear", "()V"⟩
abbrev b_Model_count : ByteArray := prog_6_method_5_code
def y_Model_count : MethodName := ⟨R_Model, "count", "()I"⟩
abbrev b_Model_get : ByteArray := prog_6_method_6_code
def y_Model_get : MethodName := ⟨R_Model, "get", "(I)J"⟩
abbrev b_Model_write : ByteArray := prog_6_method_12_code
def y_Model_write : MethodName := ⟨R_Model, "write", "()I"⟩
abbrev b_Model_addVarint : ByteArray := prog_6_method_8_code
def y_Model_addVarint : MethodName := ⟨R_Model, "addVarint", "(J)V"⟩
abbrev b_Model_add : ByteArray := prog_6_method_7_code
def y_Model_add : MethodName := ⟨R_Model, "add", "(I)V"⟩
abbrev b_Model_zigzag : ByteArray := prog_6_method_9_code
def y_Model_zigzag : MethodName := ⟨R_Model, "zigzag", "(J)J"⟩
abbrev b_Model_difference : ByteArray := prog_6_method_11_code
def y_Model_difference : MethodName := ⟨R_Model, "difference", "(I)J"⟩
abbrev b_Model_read : ByteArray := prog_6_method_18_code
def y_Model_read : MethodName := ⟨R_Model, "read", "()I"⟩
abbrev b_Model_varint : ByteArray := prog_6_method_15_code
def y_Model_varint : MethodName := ⟨R_Model, "varint", "()J"⟩
abbrev b_Model_next : ByteArray := prog_6_method_14_code
def y_Model_next : MethodName := ⟨R_Model, "next", "()I"⟩
abbrev b_Model_fail : ByteArray := prog_6_method_13_code
def y_Model_fail : MethodName := ⟨R_Model, "fail", "(II)V"⟩
abbrev b_Model_unzigzag : ByteArray := prog_6_method_10_code
def y_Model_unzigzag : MethodName := ⟨R_Model, "unzigzag", "(J)J"⟩
abbrev b_Model_readBlock : ByteArray := prog_6_method_17_code
def y_Model_readBlock : MethodName := ⟨R_Model, "readBlock", "(III)V"⟩
abbrev b_Model_inPart : ByteArray := prog_6_method_16_code
def y_Model_inPart : MethodName := ⟨R_Model, "inPart", "(II)I"⟩
abbrev b_Model_place : ByteArray := prog_6_method_19_code
def y_Model_place : MethodName := ⟨R_Model, "place", "()I"⟩
abbrev b_Model_size : ByteArray := prog_6_method_20_code
def y_Model_size : MethodName := ⟨R_Model, "size", "()I"⟩
abbrev b_Model_byteAt : ByteArray := prog_6_method_21_code
def y_Model_byteAt : MethodName := ⟨R_Model, "byteAt", "(I)I"⟩
abbrev b_Model_setByte : ByteArray := prog_6_method_22_code
def y_Model_setByte : MethodName := ⟨R_Model, "setByte", "(II)Z"⟩
abbrev b_Model_append : ByteArray := prog_6_method_23_code
def y_Model_append : MethodName := ⟨R_Model, "append", "(I)Z"⟩
abbrev b_Model_cut : ByteArray := prog_6_method_24_code
def y_Model_cut : MethodName := ⟨R_Model, "cut", "(I)Z"⟩
abbrev b_Model_blocks : ByteArray := prog_6_method_25_code
def y_Model_blocks : MethodName := ⟨R_Model, "blocks", "()I"⟩
abbrev b_Model_least : ByteArray := prog_6_method_26_code
def y_Model_least : MethodName := ⟨R_Model, "least", "(I)J"⟩
abbrev b_Model_width : ByteArray := prog_6_method_27_code
def y_Model_width : MethodName := ⟨R_Model, "width", "(II)I"⟩
abbrev b_Model_start : ByteArray := prog_6_method_28_code
def y_Model_start : MethodName := ⟨R_Model, "start", "(II)I"⟩
abbrev b_law_law : ByteArray := code
abbrev classes : List vw_C := [(R_ByteRow, F_ByteRow, 2), (R_Layout, F_Layout, 4), (R_Scan, F_Scan, 6), (R_DeltaRows, F_DeltaRows, 6), (R_Model, F_Model, 16)]
/-- the words that a call keeps -/
def zW : List Cond := lw_tbl.filter goodWord
theorem zW_good : ∀ w ∈ zW, goodWord w = true := fun _ h => (List.mem_filter.mp h).2
theorem zW_at {w : Cond} (i : Nat) (h : lw_tbl[i]? = some w) (hg : goodWord w = true) : w ∈ zW := List.mem_filter.mpr ⟨List.mem_of_getElem? h, hg⟩
def zNest : List Cond := [.methodLinkNest R_Scan 67 y_DeltaRows_unzigzag "DeltaRows", .methodLinkNest R_Scan 35 y_DeltaRows_blocksFor "DeltaRows", .methodLinkNest R_Scan 92 y_DeltaRows_partEdge "DeltaRows", .methodLinkNest R_Scan 100 y_DeltaRows_partBytes "DeltaRows"]
theorem zNest_on : ∀ w ∈ zNest, w.onTables = true := by
  intro w hw
  simp only [zNest, List.mem_cons, List.not_mem_nil, or_false] at hw
  rcases hw with rfl | rfl | rfl | rfl <;> rfl
theorem zNest_warm {s U : State} (hW : s.WarmedH U.vm) (h : ∀ w ∈ zNest, va_Nw w s) : ∀ w ∈ zNest, va_Nw w U := by
  intro w hw
  have h1 := h w hw
  simp only [zNest, List.mem_cons, List.not_mem_nil, or_false] at hw
  rcases hw with rfl | rfl | rfl | rfl <;> exact va_Nw.warmM hW h1
theorem zNest_in0 : zNest[0]? = lw_tbl[268]? := by decide +kernel
theorem zNest_in1 : zNest[1]? = lw_tbl[271]? := by decide +kernel
theorem zNest_in2 : zNest[2]? = lw_tbl[280]? := by decide +kernel
theorem zNest_in3 : zNest[3]? = lw_tbl[289]? := by decide +kernel
abbrev zT (cI cJ : ClassId) : List (ClassId × FieldType) := [(cI, .int), (cJ, .long)]
end
section
section ZWD
variable {args : Array Value} {s : State}
theorem kw_law_7 (hts : ∀ w ∈ zW, w.before args s = true) : (Cond.classLink R_law 7 R_DeltaRows).before args s = true := hts _ (zW_at 32 (by decide +kernel) rfl)
theorem kn_DeltaRows_1 (hts : ∀ w ∈ zW, w.before args s = true) : (Cond.instantiable R_DeltaRows 6).before args s = true := hts _ (zW_at 33 (by decide +kernel) rfl)
theorem kn_DeltaRows_2 (hts : ∀ w ∈ zW, w.before args s = true) : (Cond.initialized R_DeltaRows).before args s = true := hts _ (zW_at 24 (by decide +kernel) rfl)
theorem kw_DeltaRows_3 (hts : ∀ w ∈ zW, w.before args s = true) : (Cond.methodLink R_DeltaRows 3 objectInit).before args s = true := hts _ (zW_at 37 (by decide +kernel) rfl)
theorem kw_DeltaRows_17 (hts : ∀ w ∈ zW, w.before args s = true) : (Cond.classLink R_DeltaRows 17 R_ByteRow).before args s = true := hts _ (zW_at 40 (by decide +kernel) rfl)
theorem kn_ByteRow_1 (hts : ∀ w ∈ zW, w.before args s = true) : (Cond.instantiable R_ByteRow 2).before args s = true := hts _ (zW_at 41 (by decide +kernel) rfl)
theorem kn_ByteRow_2 (hts : ∀ w ∈ zW, w.before args s = true) : (Cond.initialized R_ByteRow).before args s = true := hts _ (zW_at 25 (by decide +kernel) rfl)
theorem kw_ByteRow_3 (hts : ∀ w ∈ zW, w.before args s = true) : (Cond.methodLink R_ByteRow 3 objectInit).before args s = true := hts _ (zW_at 45 (by decide +kernel) rfl)
theorem kf_ByteRow_9 (hts : ∀ w ∈ zW, w.before args s = true) : (Cond.fieldLink R_ByteRow 9 "DeltaRows$ByteRow" "words" "[J").before args s = true := hts _ (zW_at 46 (by decide +kernel) rfl)
theorem kf_ByteRow_15 (hts : ∀ w ∈ zW, w.before args s = true) : (Cond.fieldLink R_ByteRow 15 "DeltaRows$ByteRow" "used" "I").before args s = true := hts _ (zW_at 47 (by decide +kernel) rfl)
theorem kf_Scan_52 (hts : ∀ w ∈ zW, w.before args s = true) : (Cond.fieldLink R_Scan 52 "DeltaRows$ByteRow" "used" "I").before args s = true := hts _ (zW_at 48 (by decide +kernel) rfl)
theorem kf_DeltaRows_65 (hts : ∀ w ∈ zW, w.before args s = true) : (Cond.fieldLink R_DeltaRows 65 "DeltaRows$ByteRow" "used" "I").before args s = true := hts _ (zW_at 49 (by decide +kernel) rfl)
theorem ka_long (hts : ∀ w ∈ zW, w.before args s = true) : (Cond.arrayClass (newarray.typeOf .long)).before args s = true := hts _ (zW_at 55 (by decide +kernel) rfl)
theorem kw_DeltaRows_24 (hts : ∀ w ∈ zW, w.before args s = true) : (Cond.classLink R_DeltaRows 24 R_Scan).before args s = true := hts _ (zW_at 56 (by decide +kernel) rfl)
theorem kn_Scan_1 (hts : ∀ w ∈ zW, w.before args s = true) : (Cond.instantiable R_Scan 6).before args s = true := hts _ (zW_at 57 (by decide +kernel) rfl)
theorem kn_Scan_2 (hts : ∀ w ∈ zW, w.before args s = true) : (Cond.initialized R_Scan).before args s = true := hts _ (zW_at 26 (by decide +kernel) rfl)
theorem kw_Scan_3 (hts : ∀ w ∈ zW, w.before args s = true) : (Cond.methodLink R_Scan 3 objectInit).before args s = true := hts _ (zW_at 61 (by decide +kernel) rfl)
theorem kf_Scan_9 (hts : ∀ w ∈ zW, w.before args s = true) : (Cond.fieldLink R_Scan 9 "DeltaRows$Scan" "bytes" "LDeltaRows$ByteRow;").before args s = true := hts _ (zW_at 62 (by decide +kernel) rfl)
theorem kf_Scan_15 (hts : ∀ w ∈ zW, w.before args s = true) : (Cond.fieldLink R_Scan 15 "DeltaRows$Scan" "at" "I").before args s = true := hts _ (zW_at 63 (by decide +kernel) rfl)
theorem kf_Scan_19 (hts : ∀ w ∈ zW, w.before args s = true) : (Cond.fieldLink R_Scan 19 "DeltaRows$Scan" "fault" "I").before args s = true := hts _ (zW_at 64 (by decide +kernel) rfl)
theorem kf_DeltaRows_72 (hts : ∀ w ∈ zW, w.before args s = true) : (Cond.fieldLink R_DeltaRows 72 "DeltaRows$Scan" "fault" "I").before args s = true := hts _ (zW_at 65 (by decide +kernel) rfl)
theorem kf_Scan_22 (hts : ∀ w ∈ zW, w.before args s = true) : (Cond.fieldLink R_Scan 22 "DeltaRows$Scan" "faultPlace" "I").before args s = true := hts _ (zW_at 66 (by decide +kernel) rfl)
theorem kf_DeltaRows_78 (hts : ∀ w ∈ zW, w.before args s = true) : (Cond.fieldLink R_DeltaRows 78 "DeltaRows$Scan" "faultPlace" "I").before args s = true := hts _ (zW_at 67 (by decide +kernel) rfl)
theorem kf_Scan_25 (hts : ∀ w ∈ zW, w.before args s = true) : (Cond.fieldLink R_Scan 25 "DeltaRows$Scan" "total" "I").before args s = true := hts _ (zW_at 68 (by decide +kernel) rfl)
theorem kf_DeltaRows_146 (hts : ∀ w ∈ zW, w.before args s = true) : (Cond.fieldLink R_DeltaRows 146 "DeltaRows$Scan" "total" "I").before args s = true := hts _ (zW_at 69 (by decide +kernel) rfl)
theorem kf_Scan_28 (hts : ∀ w ∈ zW, w.before args s = true) : (Cond.fieldLink R_Scan 28 "DeltaRows$Scan" "first" "J").before args s = true := hts _ (zW_at 70 (by decide +kernel) rfl)
theorem kf_DeltaRows_149 (hts : ∀ w ∈ zW, w.before args s = true) : (Cond.fieldLink R_DeltaRows 149 "DeltaRows$Scan" "first" "J").before args s = true := hts _ (zW_at 71 (by decide +kernel) rfl)
theorem kw_DeltaRows_33 (hts : ∀ w ∈ zW, w.before args s = true) : (Cond.classLink R_DeltaRows 33 R_Layout).before args s = true := hts _ (zW_at 85 (by decide +kernel) rfl)
theorem kn_Layout_1 (hts : ∀ w ∈ zW, w.before args s = true) : (Cond.instantiable R_Layout 4).before args s = true := hts _ (zW_at 86 (by decide +kernel) rfl)
theorem kn_Layout_2 (hts : ∀ w ∈ zW, w.before args s = true) : (Cond.initialized R_Layout).before args s = true := hts _ (zW_at 27 (by decide +kernel) rfl)
theorem kw_Layout_3 (hts : ∀ w ∈ zW, w.before args s = true) : (Cond.methodLink R_Layout 3 objectInit).before args s = true := hts _ (zW_at 90 (by decide +kernel) rfl)
theorem kf_Layout_9 (hts : ∀ w ∈ zW, w.before args s = true) : (Cond.fieldLink R_Layout 9 "DeltaRows$Layout" "blockCount" "I").before args s = true := hts _ (zW_at 91 (by decide +kernel) rfl)
theorem kf_Scan_39 (hts : ∀ w ∈ zW, w.before args s = true) : (Cond.fieldLink R_Scan 39 "DeltaRows$Layout" "blockCount" "I").before args s = true := hts _ (zW_at 92 (by decide +kernel) rfl)
theorem kf_DeltaRows_59 (hts : ∀ w ∈ zW, w.before args s = true) : (Cond.fieldLink R_DeltaRows 59 "DeltaRows$Layout" "blockCount" "I").before args s = true := hts _ (zW_at 93 (by decide +kernel) rfl)
theorem kf_Layout_15 (hts : ∀ w ∈ zW, w.before args s = true) : (Cond.fieldLink R_Layout 15 "DeltaRows$Layout" "leasts" "[J").before args s = true := hts _ (zW_at 94 (by decide +kernel) rfl)
theorem kf_Scan_71 (hts : ∀ w ∈ zW, w.before args s = true) : (Cond.fieldLink R_Scan 71 "DeltaRows$Layout" "leasts" "[J").before args s = true := hts _ (zW_at 95 (by decide +kernel) rfl)
theorem kf_DeltaRows_98 (hts : ∀ w ∈ zW, w.before args s = true) : (Cond.fieldLink R_DeltaRows 98 "DeltaRows$Layout" "leasts" "[J").before args s = true := hts _ (zW_at 96 (by decide +kernel) rfl)
theorem kf_Layout_19 (hts : ∀ w ∈ zW, w.before args s = true) : (Cond.fieldLink R_Layout 19 "DeltaRows$Layout" "widths" "[I").before args s = true := hts _ (zW_at 97 (by decide +kernel) rfl)
theorem kf_Scan_75 (hts : ∀ w ∈ zW, w.before args s = true) : (Cond.fieldLink R_Scan 75 "DeltaRows$Layout" "widths" "[I").before args s = true := hts _ (zW_at 98 (by decide +kernel) rfl)
theorem kf_DeltaRows_105 (hts : ∀ w ∈ zW, w.before args s = true) : (Cond.fieldLink R_DeltaRows 105 "DeltaRows$Layout" "widths" "[I").before args s = true := hts _ (zW_at 99 (by decide +kernel) rfl)
theorem kf_Layout_23 (hts : ∀ w ∈ zW, w.before args s = true) : (Cond.fieldLink R_Layout 23 "DeltaRows$Layout" "starts" "[I").before args s = true := hts _ (zW_at 100 (by decide +kernel) rfl)
theorem kf_Scan_86 (hts : ∀ w ∈ zW, w.before args s = true) : (Cond.fieldLink R_Scan 86 "DeltaRows$Layout" "starts" "[I").before args s = true := hts _ (zW_at 101 (by decide +kernel) rfl)
theorem kf_DeltaRows_109 (hts : ∀ w ∈ zW, w.before args s = true) : (Cond.fieldLink R_DeltaRows 109 "DeltaRows$Layout" "starts" "[I").before args s = true := hts _ (zW_at 102 (by decide +kernel) rfl)
theorem ka_int (hts : ∀ w ∈ zW, w.before args s = true) : (Cond.arrayClass (newarray.typeOf .int)).before args s = true := hts _ (zW_at 112 (by decide +kernel) rfl)
theorem kf_DeltaRows_9 (hts : ∀ w ∈ zW, w.before args s = true) : (Cond.fieldLink R_DeltaRows 9 "DeltaRows" "row" "[J").before args s = true := hts _ (zW_at 113 (by decide +kernel) rfl)
theorem kf_DeltaRows_13 (hts : ∀ w ∈ zW, w.before args s = true) : (Cond.fieldLink R_DeltaRows 13 "DeltaRows" "rowCount" "I").before args s = true := hts _ (zW_at 114 (by decide +kernel) rfl)
theorem kf_DeltaRows_20 (hts : ∀ w ∈ zW, w.before args s = true) : (Cond.fieldLink R_DeltaRows 20 "DeltaRows" "bytes" "LDeltaRows$ByteRow;").before args s = true := hts _ (zW_at 115 (by decide +kernel) rfl)
theorem kf_DeltaRows_29 (hts : ∀ w ∈ zW, w.before args s = true) : (Cond.fieldLink R_DeltaRows 29 "DeltaRows" "scan" "LDeltaRows$Scan;").before args s = true := hts _ (zW_at 116 (by decide +kernel) rfl)
theorem kf_DeltaRows_36 (hts : ∀ w ∈ zW, w.before args s = true) : (Cond.fieldLink R_DeltaRows 36 "DeltaRows" "layout" "LDeltaRows$Layout;").before args s = true := hts _ (zW_at 117 (by decide +kernel) rfl)
theorem kf_DeltaRows_40 (hts : ∀ w ∈ zW, w.before args s = true) : (Cond.fieldLink R_DeltaRows 40 "DeltaRows" "spareLayout" "LDeltaRows$Layout;").before args s = true := hts _ (zW_at 118 (by decide +kernel) rfl)
theorem kc_ByteRow_31 (hts : ∀ w ∈ zW, w.before args s = true) : (Cond.constantLong R_ByteRow 31 (-128 : Int64)).before args s = true := hts _ (zW_at 160 (by decide +kernel) rfl)
theorem kc_ByteRow_33 (hts : ∀ w ∈ zW, w.before args s = true) : (Cond.constantLong R_ByteRow 33 (127 : Int64)).before args s = true := hts _ (zW_at 161 (by decide +kernel) rfl)
theorem kc_ByteRow_49 (hts : ∀ w ∈ zW, w.before args s = true) : (Cond.constant R_ByteRow 49 (160000 : Int32)).before args s = true := hts _ (zW_at 178 (by decide +kernel) rfl)
theorem kc_ByteRow_47 (hts : ∀ w ∈ zW, w.before args s = true) : (Cond.constantLong R_ByteRow 47 (-1 : Int64)).before args s = true := hts _ (zW_at 182 (by decide +kernel) rfl)
theorem kw_DeltaRows_160 (hts : ∀ w ∈ zW, w.before args s = true) : (Cond.methodLink R_DeltaRows 160 Lib.Math.min.name).before args s = true := hts _ (zW_at 200 (by decide +kernel) rfl)
theorem kw_DeltaRows_127 (hts : ∀ w ∈ zW, w.before args s = true) : (Cond.methodLink R_DeltaRows 127 Lib.MathLoose.min_long.x).before args s = true := hts _ (zW_at 203 (by decide +kernel) rfl)
theorem kc_Integer_264 (hts : ∀ w ∈ zW, w.before args s = true) : (Cond.constant R_Integer 264 (65536 : Int32)).before args s = true := hts _ (zW_at 216 (by decide +kernel) rfl)
theorem kc_Scan_107 (hts : ∀ w ∈ zW, w.before args s = true) : (Cond.constantLong R_Scan 107 (127 : Int64)).before args s = true := hts _ (zW_at 266 (by decide +kernel) rfl)
theorem kc_Scan_65 (hts : ∀ w ∈ zW, w.before args s = true) : (Cond.constantLong R_Scan 65 (2000 : Int64)).before args s = true := hts _ (zW_at 267 (by decide +kernel) rfl)
theorem kw_law_10 (hts : ∀ w ∈ zW, w.before args s = true) : (Cond.classLink R_law 10 R_Model).before args s = true := hts _ (zW_at 352 (by decide +kernel) rfl)
theorem kn_Model_1 (hts : ∀ w ∈ zW, w.before args s = true) : (Cond.instantiable R_Model 16).before args s = true := hts _ (zW_at 353 (by decide +kernel) rfl)
theorem kn_Model_2 (hts : ∀ w ∈ zW, w.before args s = true) : (Cond.initialized R_Model).before args s = true := hts _ (zW_at 28 (by decide +kernel) rfl)
theorem kw_Model_1 (hts : ∀ w ∈ zW, w.before args s = true) : (Cond.methodLink R_Model 1 objectInit).before args s = true := hts _ (zW_at 357 (by decide +kernel) rfl)
theorem kf_Model_42 (hts : ∀ w ∈ zW, w.before args s = true) : (Cond.fieldLink R_Model 42 "DeltaRowsModel" "code" "I").before args s = true := hts _ (zW_at 358 (by decide +kernel) rfl)
theorem kf_Model_7 (hts : ∀ w ∈ zW, w.before args s = true) : (Cond.fieldLink R_Model 7 "DeltaRowsModel" "row" "[J").before args s = true := hts _ (zW_at 359 (by decide +kernel) rfl)
theorem kf_Model_13 (hts : ∀ w ∈ zW, w.before args s = true) : (Cond.fieldLink R_Model 13 "DeltaRowsModel" "spare" "[J").before args s = true := hts _ (zW_at 360 (by decide +kernel) rfl)
theorem kf_Model_45 (hts : ∀ w ∈ zW, w.before args s = true) : (Cond.fieldLink R_Model 45 "DeltaRowsModel" "count" "I").before args s = true := hts _ (zW_at 361 (by decide +kernel) rfl)
theorem kf_Model_16 (hts : ∀ w ∈ zW, w.before args s = true) : (Cond.fieldLink R_Model 16 "DeltaRowsModel" "bytes" "[I").before args s = true := hts _ (zW_at 362 (by decide +kernel) rfl)
theorem kf_Model_48 (hts : ∀ w ∈ zW, w.before args s = true) : (Cond.fieldLink R_Model 48 "DeltaRowsModel" "size" "I").before args s = true := hts _ (zW_at 363 (by decide +kernel) rfl)
theorem kf_Model_20 (hts : ∀ w ∈ zW, w.before args s = true) : (Cond.fieldLink R_Model 20 "DeltaRowsModel" "place" "I").before args s = true := hts _ (zW_at 364 (by decide +kernel) rfl)
theorem kf_Model_24 (hts : ∀ w ∈ zW, w.before args s = true) : (Cond.fieldLink R_Model 24 "DeltaRowsModel" "leasts" "[J").before args s = true := hts _ (zW_at 365 (by decide +kernel) rfl)
theorem kf_Model_27 (hts : ∀ w ∈ zW, w.before args s = true) : (Cond.fieldLink R_Model 27 "DeltaRowsModel" "newLeasts" "[J").before args s = true := hts _ (zW_at 366 (by decide +kernel) rfl)
theorem kf_Model_30 (hts : ∀ w ∈ zW, w.before args s = true) : (Cond.fieldLink R_Model 30 "DeltaRowsModel" "widths" "[I").before args s = true := hts _ (zW_at 367 (by decide +kernel) rfl)
theorem kf_Model_33 (hts : ∀ w ∈ zW, w.before args s = true) : (Cond.fieldLink R_Model 33 "DeltaRowsModel" "starts" "[I").before args s = true := hts _ (zW_at 368 (by decide +kernel) rfl)
theorem kf_Model_36 (hts : ∀ w ∈ zW, w.before args s = true) : (Cond.fieldLink R_Model 36 "DeltaRowsModel" "newWidths" "[I").before args s = true := hts _ (zW_at 369 (by decide +kernel) rfl)
theorem kf_Model_39 (hts : ∀ w ∈ zW, w.before args s = true) : (Cond.fieldLink R_Model 39 "DeltaRowsModel" "newStarts" "[I").before args s = true := hts _ (zW_at 370 (by decide +kernel) rfl)
theorem kf_Model_61 (hts : ∀ w ∈ zW, w.before args s = true) : (Cond.fieldLink R_Model 61 "DeltaRowsModel" "blocks" "I").before args s = true := hts _ (zW_at 371 (by decide +kernel) rfl)
theorem kf_Model_79 (hts : ∀ w ∈ zW, w.before args s = true) : (Cond.fieldLink R_Model 79 "DeltaRowsModel" "at" "I").before args s = true := hts _ (zW_at 372 (by decide +kernel) rfl)
theorem kf_Model_76 (hts : ∀ w ∈ zW, w.before args s = true) : (Cond.fieldLink R_Model 76 "DeltaRowsModel" "fault" "I").before args s = true := hts _ (zW_at 373 (by decide +kernel) rfl)
theorem kc_Model_51 (hts : ∀ w ∈ zW, w.before args s = true) : (Cond.constantLong R_Model 51 (127 : Int64)).before args s = true := hts _ (zW_at 431 (by decide +kernel) rfl)
theorem kc_Model_57 (hts : ∀ w ∈ zW, w.before args s = true) : (Cond.constantLong R_Model 57 (-2 : Int64)).before args s = true := hts _ (zW_at 439 (by decide +kernel) rfl)
theorem kc_Model_59 (hts : ∀ w ∈ zW, w.before args s = true) : (Cond.constantLong R_Model 59 (2 : Int64)).before args s = true := hts _ (zW_at 440 (by decide +kernel) rfl)
theorem kc_Model_101 (hts : ∀ w ∈ zW, w.before args s = true) : (Cond.constantLong R_Model 101 (2000 : Int64)).before args s = true := hts _ (zW_at 461 (by decide +kernel) rfl)
theorem kc_law_13 (hts : ∀ w ∈ zW, w.before args s = true) : (Cond.constantLong R_law 13 (4294967295 : Int64)).before args s = true := hts _ (zW_at 512 (by decide +kernel) rfl)
theorem ko_1 (hts : ∀ w ∈ zW, w.before args s = true) : (Cond.instanceMethod objectInit).before args s = true := hts _ (zW_at 38 (by decide +kernel) rfl)
set_option maxRecDepth 100000 in
theorem ko_2 (hts : ∀ w ∈ zW, w.before args s = true) : (Cond.code objectInit ⟨#[0xb1]⟩ 1 none).before args s = true := hts _ (zW_at 39 rfl rfl)
theorem km_0 (hts : ∀ w ∈ zW, w.before args s = true) : (Cond.initialized "java/lang/Math").before args s = true := hts _ (zW_at 29 (by decide +kernel) rfl)
theorem km_minI_1 (hts : ∀ w ∈ zW, w.before args s = true) : (Cond.static Lib.Math.min.name).before args s = true := hts _ (zW_at 201 (by decide +kernel) rfl)
set_option maxRecDepth 100000 in
theorem km_minI_2 (hts : ∀ w ∈ zW, w.before args s = true) : (Cond.code Lib.Math.min.name Lib.Math.min.code 2 (some .int)).before args s = true := hts _ (zW_at 202 rfl rfl)
theorem km_minJ_1 (hts : ∀ w ∈ zW, w.before args s = true) : (Cond.static Lib.MathLoose.min_long.x).before args s = true := hts _ (zW_at 204 (by decide +kernel) rfl)
set_option maxRecDepth 100000 in
theorem km_minJ_2 (hts : ∀ w ∈ zW, w.before args s = true) : (Cond.code Lib.MathLoose.min_long.x Lib.MathLoose.min_long.code 4 (some .long)).before args s = true := hts _ (zW_at 205 rfl rfl)
end ZWD
theorem i_ByteRow : ∀ w ∈ u_ws R_ByteRow F_ByteRow 2, w ∈ zW := by
  intro w hw
  obtain ⟨k, hk, rfl⟩ := List.mem_map.mp hw
  have hk := List.mem_range.mp hk
  rcases (show k = 0 ∨ k = 1 by omega) with rfl | rfl
  · exact zW_at 50 (by decide +kernel) rfl
  · exact zW_at 52 (by decide +kernel) rfl
theorem i_Layout : ∀ w ∈ u_ws R_Layout F_Layout 4, w ∈ zW := by
  intro w hw
  obtain ⟨k, hk, rfl⟩ := List.mem_map.mp hw
  have hk := List.mem_range.mp hk
  rcases (show k = 0 ∨ k = 1 ∨ k = 2 ∨ k = 3 by omega) with rfl | rfl | rfl | rfl
  · exact zW_at 103 (by decide +kernel) rfl
  · exact zW_at 105 (by decide +kernel) rfl
  · exact zW_at 107 (by decide +kernel) rfl
  · exact zW_at 109 (by decide +kernel) rfl
theorem i_Scan : ∀ w ∈ u_ws R_Scan F_Scan 6, w ∈ zW := by
  intro w hw
  obtain ⟨k, hk, rfl⟩ := List.mem_map.mp hw
  have hk := List.mem_range.mp hk
  rcases (show k = 0 ∨ k = 1 ∨ k = 2 ∨ k = 3 ∨ k = 4 ∨ k = 5 by omega) with rfl | rfl | rfl | rfl | rfl | rfl
  · exact zW_at 72 (by decide +kernel) rfl
  · exact zW_at 74 (by decide +kernel) rfl
  · exact zW_at 76 (by decide +kernel) rfl
  · exact zW_at 78 (by decide +kernel) rfl
  · exact zW_at 80 (by decide +kernel) rfl
  · exact zW_at 82 (by decide +kernel) rfl
theorem i_DeltaRows : ∀ w ∈ u_ws R_DeltaRows F_DeltaRows 6, w ∈ zW := by
  intro w hw
  obtain ⟨k, hk, rfl⟩ := List.mem_map.mp hw
  have hk := List.mem_range.mp hk
  rcases (show k = 0 ∨ k = 1 ∨ k = 2 ∨ k = 3 ∨ k = 4 ∨ k = 5 by omega) with rfl | rfl | rfl | rfl | rfl | rfl
  · exact zW_at 119 (by decide +kernel) rfl
  · exact zW_at 121 (by decide +kernel) rfl
  · exact zW_at 123 (by decide +kernel) rfl
  · exact zW_at 125 (by decide +kernel) rfl
  · exact zW_at 127 (by decide +kernel) rfl
  · exact zW_at 129 (by decide +kernel) rfl
theorem i_Model : ∀ w ∈ u_ws R_Model F_Model 16, w ∈ zW := by
  intro w hw
  obtain ⟨k, hk, rfl⟩ := List.mem_map.mp hw
  have hk := List.mem_range.mp hk
  rcases (show k = 0 ∨ k = 1 ∨ k = 2 ∨ k = 3 ∨ k = 4 ∨ k = 5 ∨ k = 6 ∨ k = 7 ∨ k = 8 ∨ k = 9 ∨ k = 10 ∨ k = 11 ∨ k = 12 ∨ k = 13 ∨ k = 14 ∨ k = 15 by omega) with rfl | rfl | rfl | rfl | rfl | rfl | rfl | rfl | rfl | rfl | rfl | rfl | rfl | rfl | rfl | rfl
  · exact zW_at 374 (by decide +kernel) rfl
  · exact zW_at 376 (by decide +kernel) rfl
  · exact zW_at 378 (by decide +kernel) rfl
  · exact zW_at 380 (by decide +kernel) rfl
  · exact zW_at 382 (by decide +kernel) rfl
  · exact zW_at 384 (by decide +kernel) rfl
  · exact zW_at 386 (by decide +kernel) rfl
  · exact zW_at 388 (by decide +kernel) rfl
  · exact zW_at 390 (by decide +kernel) rfl
  · exact zW_at 392 (by decide +kernel) rfl
  · exact zW_at 394 (by decide +kernel) rfl
  · exact zW_at 396 (by decide +kernel) rfl
  · exact zW_at 398 (by decide +kernel) rfl
  · exact zW_at 400 (by decide +kernel) rfl
  · exact zW_at 402 (by decide +kernel) rfl
  · exact zW_at 404 (by decide +kernel) rfl
end
