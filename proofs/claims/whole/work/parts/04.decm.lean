theorem d_Model_readBlock_318 : decode b_Model_readBlock 318 = .ok (.iinc 6 1, 3) := by decide +kernel
theorem d_Model_readBlock_321 : decode b_Model_readBlock 321 = .ok (.goto (-228), 3) := by decide +kernel
theorem d_Model_readBlock_324 : decode b_Model_readBlock 324 = .ok (.return_, 1) := by decide +kernel
theorem d_Model_read_0 : decode b_Model_read 0 = .ok (.aload_n 0, 1) := by decide +kernel
theorem d_Model_read_1 : decode b_Model_read 1 = .ok (.iconst 0, 1) := by decide +kernel
theorem d_Model_read_2 : decode b_Model_read 2 = .ok (.putfield 42, 3) := by decide +kernel
theorem d_Model_read_5 : decode b_Model_read 5 = .ok (.aload_n 0, 1) := by decide +kernel
theorem d_Model_read_6 : decode b_Model_read 6 = .ok (.iconst 0, 1) := by decide +kernel
theorem d_Model_read_7 : decode b_Model_read 7 = .ok (.putfield 79, 3) := by decide +kernel
theorem d_Model_read_10 : decode b_Model_read 10 = .ok (.aload_n 0, 1) := by decide +kernel
theorem d_Model_read_11 : decode b_Model_read 11 = .ok (.iconst 0, 1) := by decide +kernel
theorem d_Model_read_12 : decode b_Model_read 12 = .ok (.putfield 76, 3) := by decide +kernel
theorem d_Model_read_15 : decode b_Model_read 15 = .ok (.aload_n 0, 1) := by decide +kernel
theorem d_Model_read_16 : decode b_Model_read 16 = .ok (.iconst (-1), 1) := by decide +kernel
theorem d_Model_read_17 : decode b_Model_read 17 = .ok (.putfield 20, 3) := by decide +kernel
theorem d_Model_read_20 : decode b_Model_read 20 = .ok (.aload_n 0, 1) := by decide +kernel
theorem d_Model_read_21 : decode b_Model_read 21 = .ok (.invokevirtual 90, 3) := by decide +kernel
theorem d_Model_read_24 : decode b_Model_read 24 = .ok (.lstore_n 1, 1) := by decide +kernel
theorem d_Model_read_25 : decode b_Model_read 25 = .ok (.aload_n 0, 1) := by decide +kernel
theorem d_Model_read_26 : decode b_Model_read 26 = .ok (.getfield 76, 3) := by decide +kernel
theorem d_Model_read_29 : decode b_Model_read 29 = .ok (.ifCond .ne 23, 3) := by decide +kernel
theorem d_Model_read_32 : decode b_Model_read 32 = .ok (.lload_n 1, 1) := by decide +kernel
theorem d_Model_read_33 : decode b_Model_read 33 = .ok (.lconst 0, 1) := by decide +kernel
theorem d_Model_read_34 : decode b_Model_read 34 = .ok (.lcmp, 1) := by decide +kernel
theorem d_Model_read_35 : decode b_Model_read 35 = .ok (.ifCond .lt 11, 3) := by decide +kernel
theorem d_Model_read_38 : decode b_Model_read 38 = .ok (.lload_n 1, 1) := by decide +kernel
theorem d_Model_read_39 : decode b_Model_read 39 = .ok (.ldc2_w 101, 3) := by decide +kernel
theorem d_Model_read_42 : decode b_Model_read 42 = .ok (.lcmp, 1) := by decide +kernel
theorem d_Model_read_43 : decode b_Model_read 43 = .ok (.ifCond .le 9, 3) := by decide +kernel
theorem d_Model_read_46 : decode b_Model_read 46 = .ok (.aload_n 0, 1) := by decide +kernel
theorem d_Model_read_47 : decode b_Model_read 47 = .ok (.iconst 4, 1) := by decide +kernel
theorem d_Model_read_48 : decode b_Model_read 48 = .ok (.iconst 0, 1) := by decide +kernel
theorem d_Model_read_49 : decode b_Model_read 49 = .ok (.invokevirtual 82, 3) := by decide +kernel
theorem d_Model_read_52 : decode b_Model_read 52 = .ok (.aload_n 0, 1) := by decide +kernel
theorem d_Model_read_53 : decode b_Model_read 53 = .ok (.getfield 76, 3) := by decide +kernel
theorem d_Model_read_56 : decode b_Model_read 56 = .ok (.ifCond .ne 22, 3) := by decide +kernel
theorem d_Model_read_59 : decode b_Model_read 59 = .ok (.lload_n 1, 1) := by decide +kernel
theorem d_Model_read_60 : decode b_Model_read 60 = .ok (.lconst 0, 1) := by decide +kernel
theorem d_Model_read_61 : decode b_Model_read 61 = .ok (.lcmp, 1) := by decide +kernel
theorem d_Model_read_62 : decode b_Model_read 62 = .ok (.ifCond .le 16, 3) := by decide +kernel
theorem d_Model_read_65 : decode b_Model_read 65 = .ok (.aload_n 0, 1) := by decide +kernel
theorem d_Model_read_66 : decode b_Model_read 66 = .ok (.getfield 13, 3) := by decide +kernel
theorem d_Model_read_69 : decode b_Model_read 69 = .ok (.iconst 0, 1) := by decide +kernel
theorem d_Model_read_70 : decode b_Model_read 70 = .ok (.aload_n 0, 1) := by decide +kernel
theorem d_Model_read_71 : decode b_Model_read 71 = .ok (.invokevirtual 90, 3) := by decide +kernel
theorem d_Model_read_74 : decode b_Model_read 74 = .ok (.invokestatic 94, 3) := by decide +kernel
theorem d_Model_read_77 : decode b_Model_read 77 = .ok (.lastore, 1) := by decide +kernel
theorem d_Model_read_78 : decode b_Model_read 78 = .ok (.iconst 0, 1) := by decide +kernel
theorem d_Model_read_79 : decode b_Model_read 79 = .ok (.istore_n 3, 1) := by decide +kernel
theorem d_Model_read_80 : decode b_Model_read 80 = .ok (.iconst 0, 1) := by decide +kernel
theorem d_Model_read_81 : decode b_Model_read 81 = .ok (.istore 4, 2) := by decide +kernel
theorem d_Model_read_83 : decode b_Model_read 83 = .ok (.iload 4, 2) := by decide +kernel
theorem d_Model_read_85 : decode b_Model_read 85 = .ok (.i2l, 1) := by decide +kernel
theorem d_Model_read_86 : decode b_Model_read 86 = .ok (.lload_n 1, 1) := by decide +kernel
theorem d_Model_read_87 : decode b_Model_read 87 = .ok (.lconst 1, 1) := by decide +kernel
theorem d_Model_read_88 : decode b_Model_read 88 = .ok (.lsub, 1) := by decide +kernel
theorem d_Model_read_89 : decode b_Model_read 89 = .ok (.lcmp, 1) := by decide +kernel
theorem d_Model_read_90 : decode b_Model_read 90 = .ok (.ifCond .ge 54, 3) := by decide +kernel
theorem d_Model_read_93 : decode b_Model_read 93 = .ok (.aload_n 0, 1) := by decide +kernel
theorem d_Model_read_94 : decode b_Model_read 94 = .ok (.getfield 76, 3) := by decide +kernel
theorem d_Model_read_97 : decode b_Model_read 97 = .ok (.ifCond .ne 47, 3) := by decide +kernel
theorem d_Model_read_100 : decode b_Model_read 100 = .ok (.lload_n 1, 1) := by decide +kernel
theorem d_Model_read_101 : decode b_Model_read 101 = .ok (.l2i, 1) := by decide +kernel
theorem d_Model_read_102 : decode b_Model_read 102 = .ok (.iconst 1, 1) := by decide +kernel
theorem d_Model_read_103 : decode b_Model_read 103 = .ok (.isub, 1) := by decide +kernel
theorem d_Model_read_104 : decode b_Model_read 104 = .ok (.iload 4, 2) := by decide +kernel
theorem d_Model_read_106 : decode b_Model_read 106 = .ok (.isub, 1) := by decide +kernel
theorem d_Model_read_107 : decode b_Model_read 107 = .ok (.bipush 64, 2) := by decide +kernel
theorem d_Model_read_109 : decode b_Model_read 109 = .ok (.if_icmp .ge 13, 3) := by decide +kernel
theorem d_Model_read_112 : decode b_Model_read 112 = .ok (.lload_n 1, 1) := by decide +kernel
theorem d_Model_read_113 : decode b_Model_read 113 = .ok (.l2i, 1) := by decide +kernel
theorem d_Model_read_114 : decode b_Model_read 114 = .ok (.iconst 1, 1) := by decide +kernel
theorem d_Model_read_115 : decode b_Model_read 115 = .ok (.isub, 1) := by decide +kernel
theorem d_Model_read_116 : decode b_Model_read 116 = .ok (.iload 4, 2) := by decide +kernel
theorem d_Model_read_118 : decode b_Model_read 118 = .ok (.isub, 1) := by decide +kernel
theorem d_Model_read_119 : decode b_Model_read 119 = .ok (.goto 5, 3) := by decide +kernel
theorem d_Model_read_122 : decode b_Model_read 122 = .ok (.bipush 64, 2) := by decide +kernel
theorem d_Model_read_124 : decode b_Model_read 124 = .ok (.istore 5, 2) := by decide +kernel
theorem d_Model_read_126 : decode b_Model_read 126 = .ok (.aload_n 0, 1) := by decide +kernel
theorem d_Model_read_127 : decode b_Model_read 127 = .ok (.iload 4, 2) := by decide +kernel
theorem d_Model_read_129 : decode b_Model_read 129 = .ok (.iload 5, 2) := by decide +kernel
theorem d_Model_read_131 : decode b_Model_read 131 = .ok (.iload_n 3, 1) := by decide +kernel
theorem d_Model_read_132 : decode b_Model_read 132 = .ok (.invokevirtual 103, 3) := by decide +kernel
theorem d_Model_read_135 : decode b_Model_read 135 = .ok (.iinc 3 1, 3) := by decide +kernel
theorem d_Model_read_138 : decode b_Model_read 138 = .ok (.iinc 4 64, 3) := by decide +kernel
theorem d_Model_read_141 : decode b_Model_read 141 = .ok (.goto (-58), 3) := by decide +kernel
theorem d_Model_read_144 : decode b_Model_read 144 = .ok (.aload_n 0, 1) := by decide +kernel
theorem d_Model_read_145 : decode b_Model_read 145 = .ok (.getfield 76, 3) := by decide +kernel
theorem d_Model_read_148 : decode b_Model_read 148 = .ok (.ifCond .ne 24, 3) := by decide +kernel
theorem d_Model_read_151 : decode b_Model_read 151 = .ok (.aload_n 0, 1) := by decide +kernel
theorem d_Model_read_152 : decode b_Model_read 152 = .ok (.getfield 79, 3) := by decide +kernel
theorem d_Model_read_155 : decode b_Model_read 155 = .ok (.aload_n 0, 1) := by decide +kernel
theorem d_Model_read_156 : decode b_Model_read 156 = .ok (.getfield 48, 3) := by decide +kernel
theorem d_Model_read_159 : decode b_Model_read 159 = .ok (.if_icmp .ge 13, 3) := by decide +kernel
theorem d_Model_read_162 : decode b_Model_read 162 = .ok (.aload_n 0, 1) := by decide +kernel
theorem d_Model_read_163 : decode b_Model_read 163 = .ok (.bipush 6, 2) := by decide +kernel
theorem d_Model_read_165 : decode b_Model_read 165 = .ok (.aload_n 0, 1) := by decide +kernel
theorem d_Model_read_166 : decode b_Model_read 166 = .ok (.getfield 79, 3) := by decide +kernel
theorem d_Model_read_169 : decode b_Model_read 169 = .ok (.invokevirtual 82, 3) := by decide +kernel
theorem d_Model_read_172 : decode b_Model_read 172 = .ok (.aload_n 0, 1) := by decide +kernel
theorem d_Model_read_173 : decode b_Model_read 173 = .ok (.getfield 76, 3) := by decide +kernel
theorem d_Model_read_176 : decode b_Model_read 176 = .ok (.ifCond .eq 8, 3) := by decide +kernel
theorem d_Model_read_179 : decode b_Model_read 179 = .ok (.aload_n 0, 1) := by decide +kernel
theorem d_Model_read_180 : decode b_Model_read 180 = .ok (.getfield 76, 3) := by decide +kernel
theorem d_Model_read_183 : decode b_Model_read 183 = .ok (.ireturn, 1) := by decide +kernel
theorem d_Model_read_184 : decode b_Model_read 184 = .ok (.aload_n 0, 1) := by decide +kernel
theorem d_Model_read_185 : decode b_Model_read 185 = .ok (.lload_n 1, 1) := by decide +kernel
theorem d_Model_read_186 : decode b_Model_read 186 = .ok (.l2i, 1) := by decide +kernel
theorem d_Model_read_187 : decode b_Model_read 187 = .ok (.putfield 45, 3) := by decide +kernel
theorem d_Model_read_190 : decode b_Model_read 190 = .ok (.iconst 0, 1) := by decide +kernel
theorem d_Model_read_191 : decode b_Model_read 191 = .ok (.istore 4, 2) := by decide +kernel
theorem d_Model_read_193 : decode b_Model_read 193 = .ok (.iload 4, 2) := by decide +kernel
theorem d_Model_read_195 : decode b_Model_read 195 = .ok (.aload_n 0, 1) := by decide +kernel
theorem d_Model_read_196 : decode b_Model_read 196 = .ok (.getfield 45, 3) := by decide +kernel
theorem d_Model_read_199 : decode b_Model_read 199 = .ok (.if_icmp .ge 23, 3) := by decide +kernel
theorem d_Model_read_202 : decode b_Model_read 202 = .ok (.aload_n 0, 1) := by decide +kernel
theorem d_Model_read_203 : decode b_Model_read 203 = .ok (.getfield 7, 3) := by decide +kernel
theorem d_Model_read_206 : decode b_Model_read 206 = .ok (.iload 4, 2) := by decide +kernel
theorem d_Model_read_208 : decode b_Model_read 208 = .ok (.aload_n 0, 1) := by decide +kernel
theorem d_Model_read_209 : decode b_Model_read 209 = .ok (.getfield 13, 3) := by decide +kernel
theorem d_Model_read_212 : decode b_Model_read 212 = .ok (.iload 4, 2) := by decide +kernel
theorem d_Model_read_214 : decode b_Model_read 214 = .ok (.laload, 1) := by decide +kernel
theorem d_Model_read_215 : decode b_Model_read 215 = .ok (.lastore, 1) := by decide +kernel
theorem d_Model_read_216 : decode b_Model_read 216 = .ok (.iinc 4 1, 3) := by decide +kernel
theorem d_Model_read_219 : decode b_Model_read 219 = .ok (.goto (-26), 3) := by decide +kernel
theorem d_Model_read_222 : decode b_Model_read 222 = .ok (.aload_n 0, 1) := by decide +kernel
theorem d_Model_read_223 : decode b_Model_read 223 = .ok (.iload_n 3, 1) := by decide +kernel
theorem d_Model_read_224 : decode b_Model_read 224 = .ok (.putfield 61, 3) := by decide +kernel
theorem d_Model_read_227 : decode b_Model_read 227 = .ok (.iconst 0, 1) := by decide +kernel
theorem d_Model_read_228 : decode b_Model_read 228 = .ok (.istore 4, 2) := by decide +kernel
theorem d_Model_read_230 : decode b_Model_read 230 = .ok (.iload 4, 2) := by decide +kernel
theorem d_Model_read_232 : decode b_Model_read 232 = .ok (.iload_n 3, 1) := by decide +kernel
theorem d_Model_read_233 : decode b_Model_read 233 = .ok (.if_icmp .ge 23, 3) := by decide +kernel
theorem d_Model_read_236 : decode b_Model_read 236 = .ok (.aload_n 0, 1) := by decide +kernel
theorem d_Model_read_237 : decode b_Model_read 237 = .ok (.getfield 24, 3) := by decide +kernel
theorem d_Model_read_240 : decode b_Model_read 240 = .ok (.iload 4, 2) := by decide +kernel
theorem d_Model_read_242 : decode b_Model_read 242 = .ok (.aload_n 0, 1) := by decide +kernel
theorem d_Model_read_243 : decode b_Model_read 243 = .ok (.getfield 27, 3) := by decide +kernel
theorem d_Model_read_246 : decode b_Model_read 246 = .ok (.iload 4, 2) := by decide +kernel
theorem d_Model_read_248 : decode b_Model_read 248 = .ok (.laload, 1) := by decide +kernel
theorem d_Model_read_249 : decode b_Model_read 249 = .ok (.lastore, 1) := by decide +kernel
theorem d_Model_read_250 : decode b_Model_read 250 = .ok (.iinc 4 1, 3) := by decide +kernel
theorem d_Model_read_253 : decode b_Model_read 253 = .ok (.goto (-23), 3) := by decide +kernel
theorem d_Model_read_256 : decode b_Model_read 256 = .ok (.iconst 0, 1) := by decide +kernel
theorem d_Model_read_257 : decode b_Model_read 257 = .ok (.istore 4, 2) := by decide +kernel
theorem d_Model_read_259 : decode b_Model_read 259 = .ok (.iload 4, 2) := by decide +kernel
theorem d_Model_read_261 : decode b_Model_read 261 = .ok (.iconst 4, 1) := by decide +kernel
theorem d_Model_read_262 : decode b_Model_read 262 = .ok (.iload_n 3, 1) := by decide +kernel
theorem d_Model_read_263 : decode b_Model_read 263 = .ok (.imul, 1) := by decide +kernel
theorem d_Model_read_264 : decode b_Model_read 264 = .ok (.if_icmp .ge 37, 3) := by decide +kernel
theorem d_Model_read_267 : decode b_Model_read 267 = .ok (.aload_n 0, 1) := by decide +kernel
theorem d_Model_read_268 : decode b_Model_read 268 = .ok (.getfield 30, 3) := by decide +kernel
theorem d_Model_read_271 : decode b_Model_read 271 = .ok (.iload 4, 2) := by decide +kernel
theorem d_Model_read_273 : decode b_Model_read 273 = .ok (.aload_n 0, 1) := by decide +kernel
theorem d_Model_read_274 : decode b_Model_read 274 = .ok (.getfield 36, 3) := by decide +kernel
theorem d_Model_read_277 : decode b_Model_read 277 = .ok (.iload 4, 2) := by decide +kernel
theorem d_Model_read_279 : decode b_Model_read 279 = .ok (.iaload, 1) := by decide +kernel
theorem d_Model_read_280 : decode b_Model_read 280 = .ok (.iastore, 1) := by decide +kernel
theorem d_Model_read_281 : decode b_Model_read 281 = .ok (.aload_n 0, 1) := by decide +kernel
theorem d_Model_read_282 : decode b_Model_read 282 = .ok (.getfield 33, 3) := by decide +kernel
theorem d_Model_read_285 : decode b_Model_read 285 = .ok (.iload 4, 2) := by decide +kernel
theorem d_Model_read_287 : decode b_Model_read 287 = .ok (.aload_n 0, 1) := by decide +kernel
theorem d_Model_read_288 : decode b_Model_read 288 = .ok (.getfield 39, 3) := by decide +kernel
theorem d_Model_read_291 : decode b_Model_read 291 = .ok (.iload 4, 2) := by decide +kernel
theorem d_Model_read_293 : decode b_Model_read 293 = .ok (.iaload, 1) := by decide +kernel
theorem d_Model_read_294 : decode b_Model_read 294 = .ok (.iastore, 1) := by decide +kernel
theorem d_Model_read_295 : decode b_Model_read 295 = .ok (.iinc 4 1, 3) := by decide +kernel
theorem d_Model_read_298 : decode b_Model_read 298 = .ok (.goto (-39), 3) := by decide +kernel
theorem d_Model_read_301 : decode b_Model_read 301 = .ok (.iconst 0, 1) := by decide +kernel
theorem d_Model_read_302 : decode b_Model_read 302 = .ok (.ireturn, 1) := by decide +kernel
theorem d_Model_place_0 : decode b_Model_place 0 = .ok (.aload_n 0, 1) := by decide +kernel
theorem d_Model_place_1 : decode b_Model_place 1 = .ok (.iconst 0, 1) := by decide +kernel
theorem d_Model_place_2 : decode b_Model_place 2 = .ok (.putfield 42, 3) := by decide +kernel
theorem d_Model_place_5 : decode b_Model_place 5 = .ok (.aload_n 0, 1) := by decide +kernel
theorem d_Model_place_6 : decode b_Model_place 6 = .ok (.getfield 20, 3) := by decide +kernel
theorem d_Model_place_9 : decode b_Model_place 9 = .ok (.ireturn, 1) := by decide +kernel
theorem d_Model_size_0 : decode b_Model_size 0 = .ok (.aload_n 0, 1) := by decide +kernel
theorem d_Model_size_1 : decode b_Model_size 1 = .ok (.iconst 0, 1) := by decide +kernel
theorem d_Model_size_2 : decode b_Model_size 2 = .ok (.putfield 42, 3) := by decide +kernel
theorem d_Model_size_5 : decode b_Model_size 5 = .ok (.aload_n 0, 1) := by decide +kernel
theorem d_Model_size_6 : decode b_Model_size 6 = .ok (.getfield 48, 3) := by decide +kernel
theorem d_Model_size_9 : decode b_Model_size 9 = .ok (.ireturn, 1) := by decide +kernel
theorem d_Model_byteAt_0 : decode b_Model_byteAt 0 = .ok (.aload_n 0, 1) := by decide +kernel
theorem d_Model_byteAt_1 : decode b_Model_byteAt 1 = .ok (.iconst 0, 1) := by decide +kernel
theorem d_Model_byteAt_2 : decode b_Model_byteAt 2 = .ok (.putfield 42, 3) := by decide +kernel
theorem d_Model_byteAt_5 : decode b_Model_byteAt 5 = .ok (.iload_n 1, 1) := by decide +kernel
theorem d_Model_byteAt_6 : decode b_Model_byteAt 6 = .ok (.ifCond .lt 11, 3) := by decide +kernel
theorem d_Model_byteAt_9 : decode b_Model_byteAt 9 = .ok (.iload_n 1, 1) := by decide +kernel
theorem d_Model_byteAt_10 : decode b_Model_byteAt 10 = .ok (.aload_n 0, 1) := by decide +kernel
theorem d_Model_byteAt_11 : decode b_Model_byteAt 11 = .ok (.getfield 48, 3) := by decide +kernel
theorem d_Model_byteAt_14 : decode b_Model_byteAt 14 = .ok (.if_icmp .lt 7, 3) := by decide +kernel
theorem d_Model_byteAt_17 : decode b_Model_byteAt 17 = .ok (.iconst (-1), 1) := by decide +kernel
theorem d_Model_byteAt_18 : decode b_Model_byteAt 18 = .ok (.goto 9, 3) := by decide +kernel
theorem d_Model_byteAt_21 : decode b_Model_byteAt 21 = .ok (.aload_n 0, 1) := by decide +kernel
theorem d_Model_byteAt_22 : decode b_Model_byteAt 22 = .ok (.getfield 16, 3) := by decide +kernel
theorem d_Model_byteAt_25 : decode b_Model_byteAt 25 = .ok (.iload_n 1, 1) := by decide +kernel
theorem d_Model_byteAt_26 : decode b_Model_byteAt 26 = .ok (.iaload, 1) := by decide +kernel
theorem d_Model_byteAt_27 : decode b_Model_byteAt 27 = .ok (.ireturn, 1) := by decide +kernel
theorem d_Model_setByte_0 : decode b_Model_setByte 0 = .ok (.aload_n 0, 1) := by decide +kernel
theorem d_Model_setByte_1 : decode b_Model_setByte 1 = .ok (.iconst 0, 1) := by decide +kernel
theorem d_Model_setByte_2 : decode b_Model_setByte 2 = .ok (.putfield 42, 3) := by decide +kernel
theorem d_Model_setByte_5 : decode b_Model_setByte 5 = .ok (.iload_n 1, 1) := by decide +kernel
theorem d_Model_setByte_6 : decode b_Model_setByte 6 = .ok (.ifCond .lt 11, 3) := by decide +kernel
theorem d_Model_setByte_9 : decode b_Model_setByte 9 = .ok (.iload_n 1, 1) := by decide +kernel
theorem d_Model_setByte_10 : decode b_Model_setByte 10 = .ok (.aload_n 0, 1) := by decide +kernel
theorem d_Model_setByte_11 : decode b_Model_setByte 11 = .ok (.getfield 48, 3) := by decide +kernel
theorem d_Model_setByte_14 : decode b_Model_setByte 14 = .ok (.if_icmp .lt 5, 3) := by decide +kernel
theorem d_Model_setByte_17 : decode b_Model_setByte 17 = .ok (.iconst 0, 1) := by decide +kernel
theorem d_Model_setByte_18 : decode b_Model_setByte 18 = .ok (.ireturn, 1) := by decide +kernel
theorem d_Model_setByte_19 : decode b_Model_setByte 19 = .ok (.aload_n 0, 1) := by decide +kernel
theorem d_Model_setByte_20 : decode b_Model_setByte 20 = .ok (.getfield 16, 3) := by decide +kernel
theorem d_Model_setByte_23 : decode b_Model_setByte 23 = .ok (.iload_n 1, 1) := by decide +kernel
theorem d_Model_setByte_24 : decode b_Model_setByte 24 = .ok (.iload_n 2, 1) := by decide +kernel
theorem d_Model_setByte_25 : decode b_Model_setByte 25 = .ok (.sipush 255, 3) := by decide +kernel
theorem d_Model_setByte_28 : decode b_Model_setByte 28 = .ok (.iand, 1) := by decide +kernel
theorem d_Model_setByte_29 : decode b_Model_setByte 29 = .ok (.iastore, 1) := by decide +kernel
theorem d_Model_setByte_30 : decode b_Model_setByte 30 = .ok (.iconst 1, 1) := by decide +kernel
theorem d_Model_setByte_31 : decode b_Model_setByte 31 = .ok (.ireturn, 1) := by decide +kernel
theorem d_Model_append_0 : decode b_Model_append 0 = .ok (.aload_n 0, 1) := by decide +kernel
theorem d_Model_append_1 : decode b_Model_append 1 = .ok (.iconst 0, 1) := by decide +kernel
theorem d_Model_append_2 : decode b_Model_append 2 = .ok (.putfield 42, 3) := by decide +kernel
theorem d_Model_append_5 : decode b_Model_append 5 = .ok (.aload_n 0, 1) := by decide +kernel
theorem d_Model_append_6 : decode b_Model_append 6 = .ok (.getfield 48, 3) := by decide +kernel
theorem d_Model_append_9 : decode b_Model_append 9 = .ok (.sipush 20000, 3) := by decide +kernel
theorem d_Model_append_12 : decode b_Model_append 12 = .ok (.if_icmp .ne 5, 3) := by decide +kernel
theorem d_Model_append_15 : decode b_Model_append 15 = .ok (.iconst 0, 1) := by decide +kernel
theorem d_Model_append_16 : decode b_Model_append 16 = .ok (.ireturn, 1) := by decide +kernel
theorem d_Model_append_17 : decode b_Model_append 17 = .ok (.aload_n 0, 1) := by decide +kernel
theorem d_Model_append_18 : decode b_Model_append 18 = .ok (.iload_n 1, 1) := by decide +kernel
theorem d_Model_append_19 : decode b_Model_append 19 = .ok (.invokevirtual 53, 3) := by decide +kernel
theorem d_Model_append_22 : decode b_Model_append 22 = .ok (.iconst 1, 1) := by decide +kernel
theorem d_Model_append_23 : decode b_Model_append 23 = .ok (.ireturn, 1) := by decide +kernel
theorem d_Model_cut_0 : decode b_Model_cut 0 = .ok (.aload_n 0, 1) := by decide +kernel
theorem d_Model_cut_1 : decode b_Model_cut 1 = .ok (.iconst 0, 1) := by decide +kernel
theorem d_Model_cut_2 : decode b_Model_cut 2 = .ok (.putfield 42, 3) := by decide +kernel
theorem d_Model_cut_5 : decode b_Model_cut 5 = .ok (.iload_n 1, 1) := by decide +kernel
theorem d_Model_cut_6 : decode b_Model_cut 6 = .ok (.ifCond .lt 11, 3) := by decide +kernel
theorem d_Model_cut_9 : decode b_Model_cut 9 = .ok (.iload_n 1, 1) := by decide +kernel
theorem d_Model_cut_10 : decode b_Model_cut 10 = .ok (.aload_n 0, 1) := by decide +kernel
theorem d_Model_cut_11 : decode b_Model_cut 11 = .ok (.getfield 48, 3) := by decide +kernel
theorem d_Model_cut_14 : decode b_Model_cut 14 = .ok (.if_icmp .le 5, 3) := by decide +kernel
theorem d_Model_cut_17 : decode b_Model_cut 17 = .ok (.iconst 0, 1) := by decide +kernel
theorem d_Model_cut_18 : decode b_Model_cut 18 = .ok (.ireturn, 1) := by decide +kernel
theorem d_Model_cut_19 : decode b_Model_cut 19 = .ok (.aload_n 0, 1) := by decide +kernel
theorem d_Model_cut_20 : decode b_Model_cut 20 = .ok (.iload_n 1, 1) := by decide +kernel
theorem d_Model_cut_21 : decode b_Model_cut 21 = .ok (.putfield 48, 3) := by decide +kernel
theorem d_Model_cut_24 : decode b_Model_cut 24 = .ok (.iconst 1, 1) := by decide +kernel
theorem d_Model_cut_25 : decode b_Model_cut 25 = .ok (.ireturn, 1) := by decide +kernel
theorem d_Model_blocks_0 : decode b_Model_blocks 0 = .ok (.aload_n 0, 1) := by decide +kernel
theorem d_Model_blocks_1 : decode b_Model_blocks 1 = .ok (.iconst 0, 1) := by decide +kernel
