section ZWD
variable {args : Array Value} {s : State}
theorem kw_law_7 (hts : ∀ w ∈ zW, w.before args s = true) : (Cond.classLink "DeltaRowsLaw" 7 R_DeltaRows).before args s = true := hts _ (zW_at 32 (by decide +kernel) rfl)
theorem kn_DeltaRows_1 (hts : ∀ w ∈ zW, w.before args s = true) : (Cond.instantiable R_DeltaRows 6).before args s = true := hts _ (zW_at 33 (by decide +kernel) rfl)
theorem kn_DeltaRows_2 (hts : ∀ w ∈ zW, w.before args s = true) : (Cond.initialized R_DeltaRows).before args s = true := hts _ (zW_at 24 (by decide +kernel) rfl)
theorem kw_DeltaRows_3 (hts : ∀ w ∈ zW, w.before args s = true) : (Cond.methodLink R_DeltaRows 3 objectInit).before args s = true := hts _ (zW_at 37 (by decide +kernel) rfl)
theorem kw_DeltaRows_17 (hts : ∀ w ∈ zW, w.before args s = true) : (Cond.classLink R_DeltaRows 17 R_ByteRow).before args s = true := hts _ (zW_at 40 (by decide +kernel) rfl)
theorem kn_ByteRow_1 (hts : ∀ w ∈ zW, w.before args s = true) : (Cond.instantiable R_ByteRow 2).before args s = true := hts _ (zW_at 41 (by decide +kernel) rfl)
theorem kn_ByteRow_2 (hts : ∀ w ∈ zW, w.before args s = true) : (Cond.initialized R_ByteRow).before args s = true := hts _ (zW_at 25 (by decide +kernel) rfl)
theorem kw_ByteRow_3 (hts : ∀ w ∈ zW, w.before args s = true) : (Cond.methodLink R_ByteRow 3 objectInit).before args s = true := hts _ (zW_at 45 (by decide +kernel) rfl)
theorem kf_ByteRow_9 (hts : ∀ w ∈ zW, w.before args s = true) : (Cond.fieldLink R_ByteRow 9 "DeltaRows$ByteRow" "words" "[J").before args s = true := hts _ (zW_at 46 (by decide +kernel) rfl)
theorem kf_ByteRow_15 (hts : ∀ w ∈ zW, w.before args s = true) : (Cond.fieldLink R_ByteRow 15 "DeltaRows$ByteRow" "used" "I").before args s = true := hts _ (zW_at 47 (by decide +kernel) rfl)
theorem kf_Scan_52 (hts : ∀ w ∈ zW, w.before args s = true) : (Cond.fieldLink R_Scan 52 "DeltaRows$ByteRow" "used" "I").before args s = true := hts _ (zW_at 48 (by decide +kernel) rfl)
theorem kf_DeltaRows_65 (hts : ∀ w ∈ zW, w.before args s = true) : (Cond.fieldLink R_DeltaRows 65 "DeltaRows$ByteRow" "used" "I").before args s = true := hts _ (zW_at 49 (by decide +kernel) rfl)
theorem ka_long (hts : ∀ w ∈ zW, w.before args s = true) : (Cond.arrayClass (newarray.typeOf .long)).before args s = true := hts _ (zW_at 55 (by decide +kernel) rfl)
theorem kw_DeltaRows_24 (hts : ∀ w ∈ zW, w.before args s = true) : (Cond.classLink R_DeltaRows 24 R_Scan).before args s = true := hts _ (zW_at 56 (by decide +kernel) rfl)
theorem kn_Scan_1 (hts : ∀ w ∈ zW, w.before args s = true) : (Cond.instantiable R_Scan 6).before args s = true := hts _ (zW_at 57 (by decide +kernel) rfl)
theorem kn_Scan_2 (hts : ∀ w ∈ zW, w.before args s = true) : (Cond.initialized R_Scan).before args s = true := hts _ (zW_at 26 (by decide +kernel) rfl)
theorem kw_Scan_3 (hts : ∀ w ∈ zW, w.before args s = true) : (Cond.methodLink R_Scan 3 objectInit).before args s = true := hts _ (zW_at 61 (by decide +kernel) rfl)
theorem kf_Scan_9 (hts : ∀ w ∈ zW, w.before args s = true) : (Cond.fieldLink R_Scan 9 "DeltaRows$Scan" "bytes" "LDeltaRows$ByteRow;").before args s = true := hts _ (zW_at 62 (by decide +kernel) rfl)
theorem kf_Scan_15 (hts : ∀ w ∈ zW, w.before args s = true) : (Cond.fieldLink R_Scan 15 "DeltaRows$Scan" "at" "I").before args s = true := hts _ (zW_at 63 (by decide +kernel) rfl)
theorem kf_Scan_19 (hts : ∀ w ∈ zW, w.before args s = true) : (Cond.fieldLink R_Scan 19 "DeltaRows$Scan" "fault" "I").before args s = true := hts _ (zW_at 64 (by decide +kernel) rfl)
theorem kf_DeltaRows_72 (hts : ∀ w ∈ zW, w.before args s = true) : (Cond.fieldLink R_DeltaRows 72 "DeltaRows$Scan" "fault" "I").before args s = true := hts _ (zW_at 65 (by decide +kernel) rfl)
theorem kf_Scan_22 (hts : ∀ w ∈ zW, w.before args s = true) : (Cond.fieldLink R_Scan 22 "DeltaRows$Scan" "faultPlace" "I").before args s = true := hts _ (zW_at 66 (by decide +kernel) rfl)
theorem kf_DeltaRows_78 (hts : ∀ w ∈ zW, w.before args s = true) : (Cond.fieldLink R_DeltaRows 78 "DeltaRows$Scan" "faultPlace" "I").before args s = true := hts _ (zW_at 67 (by decide +kernel) rfl)
theorem kf_Scan_25 (hts : ∀ w ∈ zW, w.before args s = true) : (Cond.fieldLink R_Scan 25 "DeltaRows$Scan" "total" "I").before args s = true := hts _ (zW_at 68 (by decide +kernel) rfl)
theorem kf_DeltaRows_146 (hts : ∀ w ∈ zW, w.before args s = true) : (Cond.fieldLink R_DeltaRows 146 "DeltaRows$Scan" "total" "I").before args s = true := hts _ (zW_at 69 (by decide +kernel) rfl)
theorem kf_Scan_28 (hts : ∀ w ∈ zW, w.before args s = true) : (Cond.fieldLink R_Scan 28 "DeltaRows$Scan" "first" "J").before args s = true := hts _ (zW_at 70 (by decide +kernel) rfl)
theorem kf_DeltaRows_149 (hts : ∀ w ∈ zW, w.before args s = true) : (Cond.fieldLink R_DeltaRows 149 "DeltaRows$Scan" "first" "J").before args s = true := hts _ (zW_at 71 (by decide +kernel) rfl)
theorem kw_DeltaRows_33 (hts : ∀ w ∈ zW, w.before args s = true) : (Cond.classLink R_DeltaRows 33 R_Layout).before args s = true := hts _ (zW_at 85 (by decide +kernel) rfl)
theorem kn_Layout_1 (hts : ∀ w ∈ zW, w.before args s = true) : (Cond.instantiable R_Layout 4).before args s = true := hts _ (zW_at 86 (by decide +kernel) rfl)
theorem kn_Layout_2 (hts : ∀ w ∈ zW, w.before args s = true) : (Cond.initialized R_Layout).before args s = true := hts _ (zW_at 27 (by decide +kernel) rfl)
theorem kw_Layout_3 (hts : ∀ w ∈ zW, w.before args s = true) : (Cond.methodLink R_Layout 3 objectInit).before args s = true := hts _ (zW_at 90 (by decide +kernel) rfl)
theorem kf_Layout_9 (hts : ∀ w ∈ zW, w.before args s = true) : (Cond.fieldLink R_Layout 9 "DeltaRows$Layout" "blockCount" "I").before args s = true := hts _ (zW_at 91 (by decide +kernel) rfl)
theorem kf_Scan_39 (hts : ∀ w ∈ zW, w.before args s = true) : (Cond.fieldLink R_Scan 39 "DeltaRows$Layout" "blockCount" "I").before args s = true := hts _ (zW_at 92 (by decide +kernel) rfl)
theorem kf_DeltaRows_59 (hts : ∀ w ∈ zW, w.before args s = true) : (Cond.fieldLink R_DeltaRows 59 "DeltaRows$Layout" "blockCount" "I").before args s = true := hts _ (zW_at 93 (by decide +kernel) rfl)
theorem kf_Layout_15 (hts : ∀ w ∈ zW, w.before args s = true) : (Cond.fieldLink R_Layout 15 "DeltaRows$Layout" "leasts" "[J").before args s = true := hts _ (zW_at 94 (by decide +kernel) rfl)
theorem kf_Scan_71 (hts : ∀ w ∈ zW, w.before args s = true) : (Cond.fieldLink R_Scan 71 "DeltaRows$Layout" "leasts" "[J").before args s = true := hts _ (zW_at 95 (by decide +kernel) rfl)
theorem kf_DeltaRows_98 (hts : ∀ w ∈ zW, w.before args s = true) : (Cond.fieldLink R_DeltaRows 98 "DeltaRows$Layout" "leasts" "[J").before args s = true := hts _ (zW_at 96 (by decide +kernel) rfl)
theorem kf_Layout_19 (hts : ∀ w ∈ zW, w.before args s = true) : (Cond.fieldLink R_Layout 19 "DeltaRows$Layout" "widths" "[I").before args s = true := hts _ (zW_at 97 (by decide +kernel) rfl)
theorem kf_Scan_75 (hts : ∀ w ∈ zW, w.before args s = true) : (Cond.fieldLink R_Scan 75 "DeltaRows$Layout" "widths" "[I").before args s = true := hts _ (zW_at 98 (by decide +kernel) rfl)
theorem kf_DeltaRows_105 (hts : ∀ w ∈ zW, w.before args s = true) : (Cond.fieldLink R_DeltaRows 105 "DeltaRows$Layout" "widths" "[I").before args s = true := hts _ (zW_at 99 (by decide +kernel) rfl)
theorem kf_Layout_23 (hts : ∀ w ∈ zW, w.before args s = true) : (Cond.fieldLink R_Layout 23 "DeltaRows$Layout" "starts" "[I").before args s = true := hts _ (zW_at 100 (by decide +kernel) rfl)
theorem kf_Scan_86 (hts : ∀ w ∈ zW, w.before args s = true) : (Cond.fieldLink R_Scan 86 "DeltaRows$Layout" "starts" "[I").before args s = true := hts _ (zW_at 101 (by decide +kernel) rfl)
theorem kf_DeltaRows_109 (hts : ∀ w ∈ zW, w.before args s = true) : (Cond.fieldLink R_DeltaRows 109 "DeltaRows$Layout" "starts" "[I").before args s = true := hts _ (zW_at 102 (by decide +kernel) rfl)
theorem ka_int (hts : ∀ w ∈ zW, w.before args s = true) : (Cond.arrayClass (newarray.typeOf .int)).before args s = true := hts _ (zW_at 112 (by decide +kernel) rfl)
theorem kf_DeltaRows_9 (hts : ∀ w ∈ zW, w.before args s = true) : (Cond.fieldLink R_DeltaRows 9 "DeltaRows" "row" "[J").before args s = true := hts _ (zW_at 113 (by decide +kernel) rfl)
theorem kf_DeltaRows_13 (hts : ∀ w ∈ zW, w.before args s = true) : (Cond.fieldLink R_DeltaRows 13 "DeltaRows" "rowCount" "I").before args s = true := hts _ (zW_at 114 (by decide +kernel) rfl)
theorem kf_DeltaRows_20 (hts : ∀ w ∈ zW, w.before args s = true) : (Cond.fieldLink R_DeltaRows 20 "DeltaRows" "bytes" "LDeltaRows$ByteRow;").before args s = true := hts _ (zW_at 115 (by decide +kernel) rfl)
theorem kf_DeltaRows_29 (hts : ∀ w ∈ zW, w.before args s = true) : (Cond.fieldLink R_DeltaRows 29 "DeltaRows" "scan" "LDeltaRows$Scan;").before args s = true := hts _ (zW_at 116 (by decide +kernel) rfl)
theorem kf_DeltaRows_36 (hts : ∀ w ∈ zW, w.before args s = true) : (Cond.fieldLink R_DeltaRows 36 "DeltaRows" "layout" "LDeltaRows$Layout;").before args s = true := hts _ (zW_at 117 (by decide +kernel) rfl)
theorem kf_DeltaRows_40 (hts : ∀ w ∈ zW, w.before args s = true) : (Cond.fieldLink R_DeltaRows 40 "DeltaRows" "spareLayout" "LDeltaRows$Layout;").before args s = true := hts _ (zW_at 118 (by decide +kernel) rfl)
theorem kc_ByteRow_31 (hts : ∀ w ∈ zW, w.before args s = true) : (Cond.constantLong R_ByteRow 31 (-128 : Int64)).before args s = true := hts _ (zW_at 160 (by decide +kernel) rfl)
theorem kc_ByteRow_33 (hts : ∀ w ∈ zW, w.before args s = true) : (Cond.constantLong R_ByteRow 33 (127 : Int64)).before args s = true := hts _ (zW_at 161 (by decide +kernel) rfl)
theorem kc_ByteRow_49 (hts : ∀ w ∈ zW, w.before args s = true) : (Cond.constant R_ByteRow 49 (160000 : Int32)).before args s = true := hts _ (zW_at 178 (by decide +kernel) rfl)
theorem kc_ByteRow_47 (hts : ∀ w ∈ zW, w.before args s = true) : (Cond.constantLong R_ByteRow 47 (-1 : Int64)).before args s = true := hts _ (zW_at 182 (by decide +kernel) rfl)
theorem kw_DeltaRows_160 (hts : ∀ w ∈ zW, w.before args s = true) : (Cond.methodLink R_DeltaRows 160 Lib.Math.min.name).before args s = true := hts _ (zW_at 200 (by decide +kernel) rfl)
theorem kw_DeltaRows_127 (hts : ∀ w ∈ zW, w.before args s = true) : (Cond.methodLink R_DeltaRows 127 Lib.MathLoose.min_long.x).before args s = true := hts _ (zW_at 203 (by decide +kernel) rfl)
theorem kc_Integer_264 (hts : ∀ w ∈ zW, w.before args s = true) : (Cond.constant R_Integer 264 (65536 : Int32)).before args s = true := hts _ (zW_at 216 (by decide +kernel) rfl)
theorem kc_Scan_107 (hts : ∀ w ∈ zW, w.before args s = true) : (Cond.constantLong R_Scan 107 (127 : Int64)).before args s = true := hts _ (zW_at 266 (by decide +kernel) rfl)
theorem kc_Scan_65 (hts : ∀ w ∈ zW, w.before args s = true) : (Cond.constantLong R_Scan 65 (2000 : Int64)).before args s = true := hts _ (zW_at 267 (by decide +kernel) rfl)
theorem kw_law_10 (hts : ∀ w ∈ zW, w.before args s = true) : (Cond.classLink "DeltaRowsLaw" 10 R_Model).before args s = true := hts _ (zW_at 352 (by decide +kernel) rfl)
theorem kn_Model_1 (hts : ∀ w ∈ zW, w.before args s = true) : (Cond.instantiable R_Model 16).before args s = true := hts _ (zW_at 353 (by decide +kernel) rfl)
theorem kn_Model_2 (hts : ∀ w ∈ zW, w.before args s = true) : (Cond.initialized R_Model).before args s = true := hts _ (zW_at 28 (by decide +kernel) rfl)
theorem kw_Model_1 (hts : ∀ w ∈ zW, w.before args s = true) : (Cond.methodLink R_Model 1 objectInit).before args s = true := hts _ (zW_at 357 (by decide +kernel) rfl)
theorem kf_Model_42 (hts : ∀ w ∈ zW, w.before args s = true) : (Cond.fieldLink R_Model 42 "DeltaRowsModel" "code" "I").before args s = true := hts _ (zW_at 358 (by decide +kernel) rfl)
theorem kf_Model_7 (hts : ∀ w ∈ zW, w.before args s = true) : (Cond.fieldLink R_Model 7 "DeltaRowsModel" "row" "[J").before args s = true := hts _ (zW_at 359 (by decide +kernel) rfl)
theorem kf_Model_13 (hts : ∀ w ∈ zW, w.before args s = true) : (Cond.fieldLink R_Model 13 "DeltaRowsModel" "spare" "[J").before args s = true := hts _ (zW_at 360 (by decide +kernel) rfl)
theorem kf_Model_45 (hts : ∀ w ∈ zW, w.before args s = true) : (Cond.fieldLink R_Model 45 "DeltaRowsModel" "count" "I").before args s = true := hts _ (zW_at 361 (by decide +kernel) rfl)
theorem kf_Model_16 (hts : ∀ w ∈ zW, w.before args s = true) : (Cond.fieldLink R_Model 16 "DeltaRowsModel" "bytes" "[I").before args s = true := hts _ (zW_at 362 (by decide +kernel) rfl)
theorem kf_Model_48 (hts : ∀ w ∈ zW, w.before args s = true) : (Cond.fieldLink R_Model 48 "DeltaRowsModel" "size" "I").before args s = true := hts _ (zW_at 363 (by decide +kernel) rfl)
theorem kf_Model_20 (hts : ∀ w ∈ zW, w.before args s = true) : (Cond.fieldLink R_Model 20 "DeltaRowsModel" "place" "I").before args s = true := hts _ (zW_at 364 (by decide +kernel) rfl)
theorem kf_Model_24 (hts : ∀ w ∈ zW, w.before args s = true) : (Cond.fieldLink R_Model 24 "DeltaRowsModel" "leasts" "[J").before args s = true := hts _ (zW_at 365 (by decide +kernel) rfl)
theorem kf_Model_27 (hts : ∀ w ∈ zW, w.before args s = true) : (Cond.fieldLink R_Model 27 "DeltaRowsModel" "newLeasts" "[J").before args s = true := hts _ (zW_at 366 (by decide +kernel) rfl)
theorem kf_Model_30 (hts : ∀ w ∈ zW, w.before args s = true) : (Cond.fieldLink R_Model 30 "DeltaRowsModel" "widths" "[I").before args s = true := hts _ (zW_at 367 (by decide +kernel) rfl)
theorem kf_Model_33 (hts : ∀ w ∈ zW, w.before args s = true) : (Cond.fieldLink R_Model 33 "DeltaRowsModel" "starts" "[I").before args s = true := hts _ (zW_at 368 (by decide +kernel) rfl)
theorem kf_Model_36 (hts : ∀ w ∈ zW, w.before args s = true) : (Cond.fieldLink R_Model 36 "DeltaRowsModel" "newWidths" "[I").before args s = true := hts _ (zW_at 369 (by decide +kernel) rfl)
theorem kf_Model_39 (hts : ∀ w ∈ zW, w.before args s = true) : (Cond.fieldLink R_Model 39 "DeltaRowsModel" "newStarts" "[I").before args s = true := hts _ (zW_at 370 (by decide +kernel) rfl)
theorem kf_Model_61 (hts : ∀ w ∈ zW, w.before args s = true) : (Cond.fieldLink R_Model 61 "DeltaRowsModel" "blocks" "I").before args s = true := hts _ (zW_at 371 (by decide +kernel) rfl)
theorem kf_Model_79 (hts : ∀ w ∈ zW, w.before args s = true) : (Cond.fieldLink R_Model 79 "DeltaRowsModel" "at" "I").before args s = true := hts _ (zW_at 372 (by decide +kernel) rfl)
theorem kf_Model_76 (hts : ∀ w ∈ zW, w.before args s = true) : (Cond.fieldLink R_Model 76 "DeltaRowsModel" "fault" "I").before args s = true := hts _ (zW_at 373 (by decide +kernel) rfl)
theorem kc_Model_51 (hts : ∀ w ∈ zW, w.before args s = true) : (Cond.constantLong R_Model 51 (127 : Int64)).before args s = true := hts _ (zW_at 431 (by decide +kernel) rfl)
theorem kc_Model_57 (hts : ∀ w ∈ zW, w.before args s = true) : (Cond.constantLong R_Model 57 (-2 : Int64)).before args s = true := hts _ (zW_at 439 (by decide +kernel) rfl)
theorem kc_Model_59 (hts : ∀ w ∈ zW, w.before args s = true) : (Cond.constantLong R_Model 59 (2 : Int64)).before args s = true := hts _ (zW_at 440 (by decide +kernel) rfl)
theorem kc_Model_101 (hts : ∀ w ∈ zW, w.before args s = true) : (Cond.constantLong R_Model 101 (2000 : Int64)).before args s = true := hts _ (zW_at 461 (by decide +kernel) rfl)
theorem kc_law_13 (hts : ∀ w ∈ zW, w.before args s = true) : (Cond.constantLong "DeltaRowsLaw" 13 (4294967295 : Int64)).before args s = true := hts _ (zW_at 512 (by decide +kernel) rfl)
theorem ko_1 (hts : ∀ w ∈ zW, w.before args s = true) : (Cond.instanceMethod objectInit).before args s = true := hts _ (zW_at 38 (by decide +kernel) rfl)
set_option maxRecDepth 100000 in
theorem ko_2 (hts : ∀ w ∈ zW, w.before args s = true) : (Cond.code objectInit ⟨#[0xb1]⟩ 1 none).before args s = true := hts _ (zW_at 39 rfl rfl)
theorem km_0 (hts : ∀ w ∈ zW, w.before args s = true) : (Cond.initialized "java/lang/Math").before args s = true := hts _ (zW_at 29 (by decide +kernel) rfl)
theorem km_minI_1 (hts : ∀ w ∈ zW, w.before args s = true) : (Cond.static Lib.Math.min.name).before args s = true := hts _ (zW_at 201 (by decide +kernel) rfl)
set_option maxRecDepth 100000 in
theorem km_minI_2 (hts : ∀ w ∈ zW, w.before args s = true) : (Cond.code Lib.Math.min.name Lib.Math.min.code 2 (some .int)).before args s = true := hts _ (zW_at 202 rfl rfl)
theorem km_minJ_1 (hts : ∀ w ∈ zW, w.before args s = true) : (Cond.static Lib.MathLoose.min_long.x).before args s = true := hts _ (zW_at 204 (by decide +kernel) rfl)
set_option maxRecDepth 100000 in
theorem km_minJ_2 (hts : ∀ w ∈ zW, w.before args s = true) : (Cond.code Lib.MathLoose.min_long.x Lib.MathLoose.min_long.code 4 (some .long)).before args s = true := hts _ (zW_at 205 rfl rfl)
end ZWD
theorem i_ByteRow : ∀ w ∈ u_ws R_ByteRow F_ByteRow 2, w ∈ zW := by
  intro w hw
  obtain ⟨k, hk, rfl⟩ := List.mem_map.mp hw
  have hk := List.mem_range.mp hk
  rcases (show k = 0 ∨ k = 1 by omega) with rfl | rfl
  · exact zW_at 50 (by decide +kernel) rfl
  · exact zW_at 52 (by decide +kernel) rfl
theorem i_Layout : ∀ w ∈ u_ws R_Layout F_Layout 4, w ∈ zW := by
  intro w hw
  obtain ⟨k, hk, rfl⟩ := List.mem_map.mp hw
  have hk := List.mem_range.mp hk
  rcases (show k = 0 ∨ k = 1 ∨ k = 2 ∨ k = 3 by omega) with rfl | rfl | rfl | rfl
  · exact zW_at 103 (by decide +kernel) rfl
  · exact zW_at 105 (by decide +kernel) rfl
  · exact zW_at 107 (by decide +kernel) rfl
  · exact zW_at 109 (by decide +kernel) rfl
theorem i_Scan : ∀ w ∈ u_ws R_Scan F_Scan 6, w ∈ zW := by
  intro w hw
  obtain ⟨k, hk, rfl⟩ := List.mem_map.mp hw
  have hk := List.mem_range.mp hk
  rcases (show k = 0 ∨ k = 1 ∨ k = 2 ∨ k = 3 ∨ k = 4 ∨ k = 5 by omega) with rfl | rfl | rfl | rfl | rfl | rfl
  · exact zW_at 72 (by decide +kernel) rfl
  · exact zW_at 74 (by decide +kernel) rfl
  · exact zW_at 76 (by decide +kernel) rfl
  · exact zW_at 78 (by decide +kernel) rfl
  · exact zW_at 80 (by decide +kernel) rfl
  · exact zW_at 82 (by decide +kernel) rfl
theorem i_DeltaRows : ∀ w ∈ u_ws R_DeltaRows F_DeltaRows 6, w ∈ zW := by
  intro w hw
  obtain ⟨k, hk, rfl⟩ := List.mem_map.mp hw
  have hk := List.mem_range.mp hk
  rcases (show k = 0 ∨ k = 1 ∨ k = 2 ∨ k = 3 ∨ k = 4 ∨ k = 5 by omega) with rfl | rfl | rfl | rfl | rfl | rfl
  · exact zW_at 119 (by decide +kernel) rfl
  · exact zW_at 121 (by decide +kernel) rfl
  · exact zW_at 123 (by decide +kernel) rfl
  · exact zW_at 125 (by decide +kernel) rfl
  · exact zW_at 127 (by decide +kernel) rfl
  · exact zW_at 129 (by decide +kernel) rfl
theorem i_Model : ∀ w ∈ u_ws R_Model F_Model 16, w ∈ zW := by
  intro w hw
  obtain ⟨k, hk, rfl⟩ := List.mem_map.mp hw
  have hk := List.mem_range.mp hk
  rcases (show k = 0 ∨ k = 1 ∨ k = 2 ∨ k = 3 ∨ k = 4 ∨ k = 5 ∨ k = 6 ∨ k = 7 ∨ k = 8 ∨ k = 9 ∨ k = 10 ∨ k = 11 ∨ k = 12 ∨ k = 13 ∨ k = 14 ∨ k = 15 by omega) with rfl | rfl | rfl | rfl | rfl | rfl | rfl | rfl | rfl | rfl | rfl | rfl | rfl | rfl | rfl | rfl
  · exact zW_at 374 (by decide +kernel) rfl
  · exact zW_at 376 (by decide +kernel) rfl
  · exact zW_at 378 (by decide +kernel) rfl
  · exact zW_at 380 (by decide +kernel) rfl
  · exact zW_at 382 (by decide +kernel) rfl
  · exact zW_at 384 (by decide +kernel) rfl
  · exact zW_at 386 (by decide +kernel) rfl
  · exact zW_at 388 (by decide +kernel) rfl
  · exact zW_at 390 (by decide +kernel) rfl
  · exact zW_at 392 (by decide +kernel) rfl
  · exact zW_at 394 (by decide +kernel) rfl
  · exact zW_at 396 (by decide +kernel) rfl
  · exact zW_at 398 (by decide +kernel) rfl
  · exact zW_at 400 (by decide +kernel) rfl
  · exact zW_at 402 (by decide +kernel) rfl
  · exact zW_at 404 (by decide +kernel) rfl
