theorem d_Model_varint_11 : decode b_Model_varint 11 = .ok (.getfield 76, 3) := by decide +kernel
theorem d_Model_varint_14 : decode b_Model_varint 14 = .ok (.ifCond .ne 80, 3) := by decide +kernel
theorem d_Model_varint_17 : decode b_Model_varint 17 = .ok (.aload_n 0, 1) := by decide +kernel
theorem d_Model_varint_18 : decode b_Model_varint 18 = .ok (.invokevirtual 86, 3) := by decide +kernel
theorem d_Model_varint_21 : decode b_Model_varint 21 = .ok (.istore 5, 2) := by decide +kernel
theorem d_Model_varint_23 : decode b_Model_varint 23 = .ok (.aload_n 0, 1) := by decide +kernel
theorem d_Model_varint_24 : decode b_Model_varint 24 = .ok (.getfield 76, 3) := by decide +kernel
theorem d_Model_varint_27 : decode b_Model_varint 27 = .ok (.ifCond .eq 5, 3) := by decide +kernel
theorem d_Model_varint_30 : decode b_Model_varint 30 = .ok (.lconst 0, 1) := by decide +kernel
theorem d_Model_varint_31 : decode b_Model_varint 31 = .ok (.lreturn, 1) := by decide +kernel
theorem d_Model_varint_32 : decode b_Model_varint 32 = .ok (.iload 4, 2) := by decide +kernel
theorem d_Model_varint_34 : decode b_Model_varint 34 = .ok (.bipush 9, 2) := by decide +kernel
theorem d_Model_varint_36 : decode b_Model_varint 36 = .ok (.if_icmp .ne 9, 3) := by decide +kernel
theorem d_Model_varint_39 : decode b_Model_varint 39 = .ok (.iload 5, 2) := by decide +kernel
theorem d_Model_varint_41 : decode b_Model_varint 41 = .ok (.iconst 1, 1) := by decide +kernel
theorem d_Model_varint_42 : decode b_Model_varint 42 = .ok (.if_icmp .gt 13, 3) := by decide +kernel
theorem d_Model_varint_45 : decode b_Model_varint 45 = .ok (.iload 4, 2) := by decide +kernel
theorem d_Model_varint_47 : decode b_Model_varint 47 = .ok (.ifCond .le 16, 3) := by decide +kernel
theorem d_Model_varint_50 : decode b_Model_varint 50 = .ok (.iload 5, 2) := by decide +kernel
theorem d_Model_varint_52 : decode b_Model_varint 52 = .ok (.ifCond .ne 11, 3) := by decide +kernel
theorem d_Model_varint_55 : decode b_Model_varint 55 = .ok (.aload_n 0, 1) := by decide +kernel
theorem d_Model_varint_56 : decode b_Model_varint 56 = .ok (.iconst 2, 1) := by decide +kernel
theorem d_Model_varint_57 : decode b_Model_varint 57 = .ok (.iload_n 1, 1) := by decide +kernel
theorem d_Model_varint_58 : decode b_Model_varint 58 = .ok (.invokevirtual 82, 3) := by decide +kernel
theorem d_Model_varint_61 : decode b_Model_varint 61 = .ok (.lconst 0, 1) := by decide +kernel
theorem d_Model_varint_62 : decode b_Model_varint 62 = .ok (.lreturn, 1) := by decide +kernel
theorem d_Model_varint_63 : decode b_Model_varint 63 = .ok (.lload_n 2, 1) := by decide +kernel
theorem d_Model_varint_64 : decode b_Model_varint 64 = .ok (.iload 5, 2) := by decide +kernel
theorem d_Model_varint_66 : decode b_Model_varint 66 = .ok (.bipush 127, 2) := by decide +kernel
theorem d_Model_varint_68 : decode b_Model_varint 68 = .ok (.iand, 1) := by decide +kernel
theorem d_Model_varint_69 : decode b_Model_varint 69 = .ok (.i2l, 1) := by decide +kernel
theorem d_Model_varint_70 : decode b_Model_varint 70 = .ok (.bipush 7, 2) := by decide +kernel
theorem d_Model_varint_72 : decode b_Model_varint 72 = .ok (.iload 4, 2) := by decide +kernel
theorem d_Model_varint_74 : decode b_Model_varint 74 = .ok (.imul, 1) := by decide +kernel
theorem d_Model_varint_75 : decode b_Model_varint 75 = .ok (.lshl, 1) := by decide +kernel
theorem d_Model_varint_76 : decode b_Model_varint 76 = .ok (.lor, 1) := by decide +kernel
theorem d_Model_varint_77 : decode b_Model_varint 77 = .ok (.lstore_n 2, 1) := by decide +kernel
theorem d_Model_varint_78 : decode b_Model_varint 78 = .ok (.iload 5, 2) := by decide +kernel
theorem d_Model_varint_80 : decode b_Model_varint 80 = .ok (.sipush 128, 3) := by decide +kernel
theorem d_Model_varint_83 : decode b_Model_varint 83 = .ok (.if_icmp .ge 5, 3) := by decide +kernel
theorem d_Model_varint_86 : decode b_Model_varint 86 = .ok (.lload_n 2, 1) := by decide +kernel
theorem d_Model_varint_87 : decode b_Model_varint 87 = .ok (.lreturn, 1) := by decide +kernel
theorem d_Model_varint_88 : decode b_Model_varint 88 = .ok (.iinc 4 1, 3) := by decide +kernel
theorem d_Model_varint_91 : decode b_Model_varint 91 = .ok (.goto (-81), 3) := by decide +kernel
theorem d_Model_varint_94 : decode b_Model_varint 94 = .ok (.lconst 0, 1) := by decide +kernel
theorem d_Model_varint_95 : decode b_Model_varint 95 = .ok (.lreturn, 1) := by decide +kernel
theorem d_Model_inPart_0 : decode b_Model_inPart 0 = .ok (.iload_n 0, 1) := by decide +kernel
theorem d_Model_inPart_1 : decode b_Model_inPart 1 = .ok (.bipush 16, 2) := by decide +kernel
theorem d_Model_inPart_3 : decode b_Model_inPart 3 = .ok (.iload_n 1, 1) := by decide +kernel
theorem d_Model_inPart_4 : decode b_Model_inPart 4 = .ok (.imul, 1) := by decide +kernel
theorem d_Model_inPart_5 : decode b_Model_inPart 5 = .ok (.isub, 1) := by decide +kernel
theorem d_Model_inPart_6 : decode b_Model_inPart 6 = .ok (.ifCond .ge 7, 3) := by decide +kernel
theorem d_Model_inPart_9 : decode b_Model_inPart 9 = .ok (.iconst 0, 1) := by decide +kernel
theorem d_Model_inPart_10 : decode b_Model_inPart 10 = .ok (.goto 25, 3) := by decide +kernel
theorem d_Model_inPart_13 : decode b_Model_inPart 13 = .ok (.iload_n 0, 1) := by decide +kernel
theorem d_Model_inPart_14 : decode b_Model_inPart 14 = .ok (.bipush 16, 2) := by decide +kernel
theorem d_Model_inPart_16 : decode b_Model_inPart 16 = .ok (.iload_n 1, 1) := by decide +kernel
theorem d_Model_inPart_17 : decode b_Model_inPart 17 = .ok (.imul, 1) := by decide +kernel
theorem d_Model_inPart_18 : decode b_Model_inPart 18 = .ok (.isub, 1) := by decide +kernel
theorem d_Model_inPart_19 : decode b_Model_inPart 19 = .ok (.bipush 16, 2) := by decide +kernel
theorem d_Model_inPart_21 : decode b_Model_inPart 21 = .ok (.if_icmp .ge 12, 3) := by decide +kernel
theorem d_Model_inPart_24 : decode b_Model_inPart 24 = .ok (.iload_n 0, 1) := by decide +kernel
theorem d_Model_inPart_25 : decode b_Model_inPart 25 = .ok (.bipush 16, 2) := by decide +kernel
theorem d_Model_inPart_27 : decode b_Model_inPart 27 = .ok (.iload_n 1, 1) := by decide +kernel
theorem d_Model_inPart_28 : decode b_Model_inPart 28 = .ok (.imul, 1) := by decide +kernel
theorem d_Model_inPart_29 : decode b_Model_inPart 29 = .ok (.isub, 1) := by decide +kernel
theorem d_Model_inPart_30 : decode b_Model_inPart 30 = .ok (.goto 5, 3) := by decide +kernel
theorem d_Model_inPart_33 : decode b_Model_inPart 33 = .ok (.bipush 16, 2) := by decide +kernel
theorem d_Model_inPart_35 : decode b_Model_inPart 35 = .ok (.ireturn, 1) := by decide +kernel
theorem d_Model_readBlock_0 : decode b_Model_readBlock 0 = .ok (.aload_n 0, 1) := by decide +kernel
theorem d_Model_readBlock_1 : decode b_Model_readBlock 1 = .ok (.invokevirtual 90, 3) := by decide +kernel
theorem d_Model_readBlock_4 : decode b_Model_readBlock 4 = .ok (.invokestatic 94, 3) := by decide +kernel
theorem d_Model_readBlock_7 : decode b_Model_readBlock 7 = .ok (.lstore 4, 2) := by decide +kernel
theorem d_Model_readBlock_9 : decode b_Model_readBlock 9 = .ok (.aload_n 0, 1) := by decide +kernel
theorem d_Model_readBlock_10 : decode b_Model_readBlock 10 = .ok (.getfield 27, 3) := by decide +kernel
theorem d_Model_readBlock_13 : decode b_Model_readBlock 13 = .ok (.iload_n 3, 1) := by decide +kernel
theorem d_Model_readBlock_14 : decode b_Model_readBlock 14 = .ok (.lload 4, 2) := by decide +kernel
theorem d_Model_readBlock_16 : decode b_Model_readBlock 16 = .ok (.lastore, 1) := by decide +kernel
theorem d_Model_readBlock_17 : decode b_Model_readBlock 17 = .ok (.iconst 0, 1) := by decide +kernel
theorem d_Model_readBlock_18 : decode b_Model_readBlock 18 = .ok (.istore 6, 2) := by decide +kernel
theorem d_Model_readBlock_20 : decode b_Model_readBlock 20 = .ok (.iload 6, 2) := by decide +kernel
theorem d_Model_readBlock_22 : decode b_Model_readBlock 22 = .ok (.iconst 4, 1) := by decide +kernel
theorem d_Model_readBlock_23 : decode b_Model_readBlock 23 = .ok (.if_icmp .ge 67, 3) := by decide +kernel
theorem d_Model_readBlock_26 : decode b_Model_readBlock 26 = .ok (.aload_n 0, 1) := by decide +kernel
theorem d_Model_readBlock_27 : decode b_Model_readBlock 27 = .ok (.getfield 76, 3) := by decide +kernel
theorem d_Model_readBlock_30 : decode b_Model_readBlock 30 = .ok (.ifCond .ne 60, 3) := by decide +kernel
theorem d_Model_readBlock_33 : decode b_Model_readBlock 33 = .ok (.aload_n 0, 1) := by decide +kernel
theorem d_Model_readBlock_34 : decode b_Model_readBlock 34 = .ok (.invokevirtual 86, 3) := by decide +kernel
theorem d_Model_readBlock_37 : decode b_Model_readBlock 37 = .ok (.istore 7, 2) := by decide +kernel
theorem d_Model_readBlock_39 : decode b_Model_readBlock 39 = .ok (.iload 7, 2) := by decide +kernel
theorem d_Model_readBlock_41 : decode b_Model_readBlock 41 = .ok (.bipush 64, 2) := by decide +kernel
theorem d_Model_readBlock_43 : decode b_Model_readBlock 43 = .ok (.if_icmp .gt 17, 3) := by decide +kernel
theorem d_Model_readBlock_46 : decode b_Model_readBlock 46 = .ok (.iload 7, 2) := by decide +kernel
theorem d_Model_readBlock_48 : decode b_Model_readBlock 48 = .ok (.ifCond .le 23, 3) := by decide +kernel
theorem d_Model_readBlock_51 : decode b_Model_readBlock 51 = .ok (.iload_n 2, 1) := by decide +kernel
theorem d_Model_readBlock_52 : decode b_Model_readBlock 52 = .ok (.iload 6, 2) := by decide +kernel
theorem d_Model_readBlock_54 : decode b_Model_readBlock 54 = .ok (.invokestatic 97, 3) := by decide +kernel
theorem d_Model_readBlock_57 : decode b_Model_readBlock 57 = .ok (.ifCond .ne 14, 3) := by decide +kernel
theorem d_Model_readBlock_60 : decode b_Model_readBlock 60 = .ok (.aload_n 0, 1) := by decide +kernel
theorem d_Model_readBlock_61 : decode b_Model_readBlock 61 = .ok (.iconst 5, 1) := by decide +kernel
theorem d_Model_readBlock_62 : decode b_Model_readBlock 62 = .ok (.aload_n 0, 1) := by decide +kernel
theorem d_Model_readBlock_63 : decode b_Model_readBlock 63 = .ok (.getfield 79, 3) := by decide +kernel
theorem d_Model_readBlock_66 : decode b_Model_readBlock 66 = .ok (.iconst 1, 1) := by decide +kernel
theorem d_Model_readBlock_67 : decode b_Model_readBlock 67 = .ok (.isub, 1) := by decide +kernel
theorem d_Model_readBlock_68 : decode b_Model_readBlock 68 = .ok (.invokevirtual 82, 3) := by decide +kernel
theorem d_Model_readBlock_71 : decode b_Model_readBlock 71 = .ok (.aload_n 0, 1) := by decide +kernel
theorem d_Model_readBlock_72 : decode b_Model_readBlock 72 = .ok (.getfield 36, 3) := by decide +kernel
theorem d_Model_readBlock_75 : decode b_Model_readBlock 75 = .ok (.iconst 4, 1) := by decide +kernel
theorem d_Model_readBlock_76 : decode b_Model_readBlock 76 = .ok (.iload_n 3, 1) := by decide +kernel
theorem d_Model_readBlock_77 : decode b_Model_readBlock 77 = .ok (.imul, 1) := by decide +kernel
theorem d_Model_readBlock_78 : decode b_Model_readBlock 78 = .ok (.iload 6, 2) := by decide +kernel
theorem d_Model_readBlock_80 : decode b_Model_readBlock 80 = .ok (.iadd, 1) := by decide +kernel
theorem d_Model_readBlock_81 : decode b_Model_readBlock 81 = .ok (.iload 7, 2) := by decide +kernel
theorem d_Model_readBlock_83 : decode b_Model_readBlock 83 = .ok (.iastore, 1) := by decide +kernel
theorem d_Model_readBlock_84 : decode b_Model_readBlock 84 = .ok (.iinc 6 1, 3) := by decide +kernel
theorem d_Model_readBlock_87 : decode b_Model_readBlock 87 = .ok (.goto (-67), 3) := by decide +kernel
theorem d_Model_readBlock_90 : decode b_Model_readBlock 90 = .ok (.iconst 0, 1) := by decide +kernel
theorem d_Model_readBlock_91 : decode b_Model_readBlock 91 = .ok (.istore 6, 2) := by decide +kernel
theorem d_Model_readBlock_93 : decode b_Model_readBlock 93 = .ok (.iload 6, 2) := by decide +kernel
theorem d_Model_readBlock_95 : decode b_Model_readBlock 95 = .ok (.iconst 4, 1) := by decide +kernel
theorem d_Model_readBlock_96 : decode b_Model_readBlock 96 = .ok (.if_icmp .ge 228, 3) := by decide +kernel
theorem d_Model_readBlock_99 : decode b_Model_readBlock 99 = .ok (.aload_n 0, 1) := by decide +kernel
theorem d_Model_readBlock_100 : decode b_Model_readBlock 100 = .ok (.getfield 76, 3) := by decide +kernel
theorem d_Model_readBlock_103 : decode b_Model_readBlock 103 = .ok (.ifCond .ne 221, 3) := by decide +kernel
theorem d_Model_readBlock_106 : decode b_Model_readBlock 106 = .ok (.aload_n 0, 1) := by decide +kernel
theorem d_Model_readBlock_107 : decode b_Model_readBlock 107 = .ok (.getfield 36, 3) := by decide +kernel
theorem d_Model_readBlock_110 : decode b_Model_readBlock 110 = .ok (.iconst 4, 1) := by decide +kernel
theorem d_Model_readBlock_111 : decode b_Model_readBlock 111 = .ok (.iload_n 3, 1) := by decide +kernel
theorem d_Model_readBlock_112 : decode b_Model_readBlock 112 = .ok (.imul, 1) := by decide +kernel
theorem d_Model_readBlock_113 : decode b_Model_readBlock 113 = .ok (.iload 6, 2) := by decide +kernel
theorem d_Model_readBlock_115 : decode b_Model_readBlock 115 = .ok (.iadd, 1) := by decide +kernel
theorem d_Model_readBlock_116 : decode b_Model_readBlock 116 = .ok (.iaload, 1) := by decide +kernel
theorem d_Model_readBlock_117 : decode b_Model_readBlock 117 = .ok (.istore 7, 2) := by decide +kernel
theorem d_Model_readBlock_119 : decode b_Model_readBlock 119 = .ok (.aload_n 0, 1) := by decide +kernel
theorem d_Model_readBlock_120 : decode b_Model_readBlock 120 = .ok (.getfield 39, 3) := by decide +kernel
theorem d_Model_readBlock_123 : decode b_Model_readBlock 123 = .ok (.iconst 4, 1) := by decide +kernel
theorem d_Model_readBlock_124 : decode b_Model_readBlock 124 = .ok (.iload_n 3, 1) := by decide +kernel
theorem d_Model_readBlock_125 : decode b_Model_readBlock 125 = .ok (.imul, 1) := by decide +kernel
theorem d_Model_readBlock_126 : decode b_Model_readBlock 126 = .ok (.iload 6, 2) := by decide +kernel
theorem d_Model_readBlock_128 : decode b_Model_readBlock 128 = .ok (.iadd, 1) := by decide +kernel
theorem d_Model_readBlock_129 : decode b_Model_readBlock 129 = .ok (.aload_n 0, 1) := by decide +kernel
theorem d_Model_readBlock_130 : decode b_Model_readBlock 130 = .ok (.getfield 79, 3) := by decide +kernel
theorem d_Model_readBlock_133 : decode b_Model_readBlock 133 = .ok (.iastore, 1) := by decide +kernel
theorem d_Model_readBlock_134 : decode b_Model_readBlock 134 = .ok (.aload_n 0, 1) := by decide +kernel
theorem d_Model_readBlock_135 : decode b_Model_readBlock 135 = .ok (.getfield 48, 3) := by decide +kernel
theorem d_Model_readBlock_138 : decode b_Model_readBlock 138 = .ok (.aload_n 0, 1) := by decide +kernel
theorem d_Model_readBlock_139 : decode b_Model_readBlock 139 = .ok (.getfield 79, 3) := by decide +kernel
theorem d_Model_readBlock_142 : decode b_Model_readBlock 142 = .ok (.isub, 1) := by decide +kernel
theorem d_Model_readBlock_143 : decode b_Model_readBlock 143 = .ok (.iconst 2, 1) := by decide +kernel
theorem d_Model_readBlock_144 : decode b_Model_readBlock 144 = .ok (.iload 7, 2) := by decide +kernel
theorem d_Model_readBlock_146 : decode b_Model_readBlock 146 = .ok (.imul, 1) := by decide +kernel
theorem d_Model_readBlock_147 : decode b_Model_readBlock 147 = .ok (.if_icmp .ge 13, 3) := by decide +kernel
theorem d_Model_readBlock_150 : decode b_Model_readBlock 150 = .ok (.aload_n 0, 1) := by decide +kernel
theorem d_Model_readBlock_151 : decode b_Model_readBlock 151 = .ok (.iconst 1, 1) := by decide +kernel
theorem d_Model_readBlock_152 : decode b_Model_readBlock 152 = .ok (.aload_n 0, 1) := by decide +kernel
theorem d_Model_readBlock_153 : decode b_Model_readBlock 153 = .ok (.getfield 48, 3) := by decide +kernel
theorem d_Model_readBlock_156 : decode b_Model_readBlock 156 = .ok (.invokevirtual 82, 3) := by decide +kernel
theorem d_Model_readBlock_159 : decode b_Model_readBlock 159 = .ok (.return_, 1) := by decide +kernel
theorem d_Model_readBlock_160 : decode b_Model_readBlock 160 = .ok (.iconst 0, 1) := by decide +kernel
theorem d_Model_readBlock_161 : decode b_Model_readBlock 161 = .ok (.istore 8, 2) := by decide +kernel
theorem d_Model_readBlock_163 : decode b_Model_readBlock 163 = .ok (.iload 8, 2) := by decide +kernel
theorem d_Model_readBlock_165 : decode b_Model_readBlock 165 = .ok (.bipush 16, 2) := by decide +kernel
theorem d_Model_readBlock_167 : decode b_Model_readBlock 167 = .ok (.if_icmp .ge 138, 3) := by decide +kernel
theorem d_Model_readBlock_170 : decode b_Model_readBlock 170 = .ok (.lconst 0, 1) := by decide +kernel
theorem d_Model_readBlock_171 : decode b_Model_readBlock 171 = .ok (.lstore 9, 2) := by decide +kernel
theorem d_Model_readBlock_173 : decode b_Model_readBlock 173 = .ok (.iconst 0, 1) := by decide +kernel
theorem d_Model_readBlock_174 : decode b_Model_readBlock 174 = .ok (.istore 11, 2) := by decide +kernel
theorem d_Model_readBlock_176 : decode b_Model_readBlock 176 = .ok (.iload 11, 2) := by decide +kernel
theorem d_Model_readBlock_178 : decode b_Model_readBlock 178 = .ok (.iload 7, 2) := by decide +kernel
theorem d_Model_readBlock_180 : decode b_Model_readBlock 180 = .ok (.if_icmp .ge 51, 3) := by decide +kernel
theorem d_Model_readBlock_183 : decode b_Model_readBlock 183 = .ok (.iload 7, 2) := by decide +kernel
theorem d_Model_readBlock_185 : decode b_Model_readBlock 185 = .ok (.iload 8, 2) := by decide +kernel
theorem d_Model_readBlock_187 : decode b_Model_readBlock 187 = .ok (.imul, 1) := by decide +kernel
theorem d_Model_readBlock_188 : decode b_Model_readBlock 188 = .ok (.iload 11, 2) := by decide +kernel
theorem d_Model_readBlock_190 : decode b_Model_readBlock 190 = .ok (.iadd, 1) := by decide +kernel
theorem d_Model_readBlock_191 : decode b_Model_readBlock 191 = .ok (.istore 12, 2) := by decide +kernel
theorem d_Model_readBlock_193 : decode b_Model_readBlock 193 = .ok (.lload 9, 2) := by decide +kernel
theorem d_Model_readBlock_195 : decode b_Model_readBlock 195 = .ok (.aload_n 0, 1) := by decide +kernel
theorem d_Model_readBlock_196 : decode b_Model_readBlock 196 = .ok (.getfield 16, 3) := by decide +kernel
theorem d_Model_readBlock_199 : decode b_Model_readBlock 199 = .ok (.aload_n 0, 1) := by decide +kernel
theorem d_Model_readBlock_200 : decode b_Model_readBlock 200 = .ok (.getfield 79, 3) := by decide +kernel
theorem d_Model_readBlock_203 : decode b_Model_readBlock 203 = .ok (.iload 12, 2) := by decide +kernel
theorem d_Model_readBlock_205 : decode b_Model_readBlock 205 = .ok (.bipush 8, 2) := by decide +kernel
theorem d_Model_readBlock_207 : decode b_Model_readBlock 207 = .ok (.idiv, 1) := by decide +kernel
theorem d_Model_readBlock_208 : decode b_Model_readBlock 208 = .ok (.iadd, 1) := by decide +kernel
theorem d_Model_readBlock_209 : decode b_Model_readBlock 209 = .ok (.iaload, 1) := by decide +kernel
theorem d_Model_readBlock_210 : decode b_Model_readBlock 210 = .ok (.iload 12, 2) := by decide +kernel
theorem d_Model_readBlock_212 : decode b_Model_readBlock 212 = .ok (.bipush 8, 2) := by decide +kernel
theorem d_Model_readBlock_214 : decode b_Model_readBlock 214 = .ok (.irem, 1) := by decide +kernel
theorem d_Model_readBlock_215 : decode b_Model_readBlock 215 = .ok (.ishr, 1) := by decide +kernel
theorem d_Model_readBlock_216 : decode b_Model_readBlock 216 = .ok (.iconst 1, 1) := by decide +kernel
theorem d_Model_readBlock_217 : decode b_Model_readBlock 217 = .ok (.iand, 1) := by decide +kernel
theorem d_Model_readBlock_218 : decode b_Model_readBlock 218 = .ok (.i2l, 1) := by decide +kernel
theorem d_Model_readBlock_219 : decode b_Model_readBlock 219 = .ok (.iload 11, 2) := by decide +kernel
theorem d_Model_readBlock_221 : decode b_Model_readBlock 221 = .ok (.lshl, 1) := by decide +kernel
theorem d_Model_readBlock_222 : decode b_Model_readBlock 222 = .ok (.lor, 1) := by decide +kernel
theorem d_Model_readBlock_223 : decode b_Model_readBlock 223 = .ok (.lstore 9, 2) := by decide +kernel
theorem d_Model_readBlock_225 : decode b_Model_readBlock 225 = .ok (.iinc 11 1, 3) := by decide +kernel
theorem d_Model_readBlock_228 : decode b_Model_readBlock 228 = .ok (.goto (-52), 3) := by decide +kernel
theorem d_Model_readBlock_231 : decode b_Model_readBlock 231 = .ok (.iload 8, 2) := by decide +kernel
theorem d_Model_readBlock_233 : decode b_Model_readBlock 233 = .ok (.iload_n 2, 1) := by decide +kernel
theorem d_Model_readBlock_234 : decode b_Model_readBlock 234 = .ok (.iload 6, 2) := by decide +kernel
theorem d_Model_readBlock_236 : decode b_Model_readBlock 236 = .ok (.invokestatic 97, 3) := by decide +kernel
theorem d_Model_readBlock_239 : decode b_Model_readBlock 239 = .ok (.if_icmp .ge 44, 3) := by decide +kernel
theorem d_Model_readBlock_242 : decode b_Model_readBlock 242 = .ok (.aload_n 0, 1) := by decide +kernel
theorem d_Model_readBlock_243 : decode b_Model_readBlock 243 = .ok (.getfield 13, 3) := by decide +kernel
theorem d_Model_readBlock_246 : decode b_Model_readBlock 246 = .ok (.iload_n 1, 1) := by decide +kernel
theorem d_Model_readBlock_247 : decode b_Model_readBlock 247 = .ok (.bipush 16, 2) := by decide +kernel
theorem d_Model_readBlock_249 : decode b_Model_readBlock 249 = .ok (.iload 6, 2) := by decide +kernel
theorem d_Model_readBlock_251 : decode b_Model_readBlock 251 = .ok (.imul, 1) := by decide +kernel
theorem d_Model_readBlock_252 : decode b_Model_readBlock 252 = .ok (.iadd, 1) := by decide +kernel
theorem d_Model_readBlock_253 : decode b_Model_readBlock 253 = .ok (.iload 8, 2) := by decide +kernel
theorem d_Model_readBlock_255 : decode b_Model_readBlock 255 = .ok (.iadd, 1) := by decide +kernel
theorem d_Model_readBlock_256 : decode b_Model_readBlock 256 = .ok (.iconst 1, 1) := by decide +kernel
theorem d_Model_readBlock_257 : decode b_Model_readBlock 257 = .ok (.iadd, 1) := by decide +kernel
theorem d_Model_readBlock_258 : decode b_Model_readBlock 258 = .ok (.aload_n 0, 1) := by decide +kernel
theorem d_Model_readBlock_259 : decode b_Model_readBlock 259 = .ok (.getfield 13, 3) := by decide +kernel
theorem d_Model_readBlock_262 : decode b_Model_readBlock 262 = .ok (.iload_n 1, 1) := by decide +kernel
theorem d_Model_readBlock_263 : decode b_Model_readBlock 263 = .ok (.bipush 16, 2) := by decide +kernel
theorem d_Model_readBlock_265 : decode b_Model_readBlock 265 = .ok (.iload 6, 2) := by decide +kernel
theorem d_Model_readBlock_267 : decode b_Model_readBlock 267 = .ok (.imul, 1) := by decide +kernel
theorem d_Model_readBlock_268 : decode b_Model_readBlock 268 = .ok (.iadd, 1) := by decide +kernel
theorem d_Model_readBlock_269 : decode b_Model_readBlock 269 = .ok (.iload 8, 2) := by decide +kernel
theorem d_Model_readBlock_271 : decode b_Model_readBlock 271 = .ok (.iadd, 1) := by decide +kernel
theorem d_Model_readBlock_272 : decode b_Model_readBlock 272 = .ok (.laload, 1) := by decide +kernel
theorem d_Model_readBlock_273 : decode b_Model_readBlock 273 = .ok (.lload 4, 2) := by decide +kernel
theorem d_Model_readBlock_275 : decode b_Model_readBlock 275 = .ok (.ladd, 1) := by decide +kernel
theorem d_Model_readBlock_276 : decode b_Model_readBlock 276 = .ok (.lload 9, 2) := by decide +kernel
theorem d_Model_readBlock_278 : decode b_Model_readBlock 278 = .ok (.ladd, 1) := by decide +kernel
theorem d_Model_readBlock_279 : decode b_Model_readBlock 279 = .ok (.lastore, 1) := by decide +kernel
theorem d_Model_readBlock_280 : decode b_Model_readBlock 280 = .ok (.goto 19, 3) := by decide +kernel
theorem d_Model_readBlock_283 : decode b_Model_readBlock 283 = .ok (.lload 9, 2) := by decide +kernel
theorem d_Model_readBlock_285 : decode b_Model_readBlock 285 = .ok (.lconst 0, 1) := by decide +kernel
theorem d_Model_readBlock_286 : decode b_Model_readBlock 286 = .ok (.lcmp, 1) := by decide +kernel
theorem d_Model_readBlock_287 : decode b_Model_readBlock 287 = .ok (.ifCond .eq 12, 3) := by decide +kernel
theorem d_Model_readBlock_290 : decode b_Model_readBlock 290 = .ok (.aload_n 0, 1) := by decide +kernel
theorem d_Model_readBlock_291 : decode b_Model_readBlock 291 = .ok (.iconst 5, 1) := by decide +kernel
theorem d_Model_readBlock_292 : decode b_Model_readBlock 292 = .ok (.aload_n 0, 1) := by decide +kernel
theorem d_Model_readBlock_293 : decode b_Model_readBlock 293 = .ok (.getfield 79, 3) := by decide +kernel
theorem d_Model_readBlock_296 : decode b_Model_readBlock 296 = .ok (.invokevirtual 82, 3) := by decide +kernel
theorem d_Model_readBlock_299 : decode b_Model_readBlock 299 = .ok (.iinc 8 1, 3) := by decide +kernel
theorem d_Model_readBlock_302 : decode b_Model_readBlock 302 = .ok (.goto (-139), 3) := by decide +kernel
theorem d_Model_readBlock_305 : decode b_Model_readBlock 305 = .ok (.aload_n 0, 1) := by decide +kernel
theorem d_Model_readBlock_306 : decode b_Model_readBlock 306 = .ok (.dup, 1) := by decide +kernel
theorem d_Model_readBlock_307 : decode b_Model_readBlock 307 = .ok (.getfield 79, 3) := by decide +kernel
theorem d_Model_readBlock_310 : decode b_Model_readBlock 310 = .ok (.iconst 2, 1) := by decide +kernel
theorem d_Model_readBlock_311 : decode b_Model_readBlock 311 = .ok (.iload 7, 2) := by decide +kernel
theorem d_Model_readBlock_313 : decode b_Model_readBlock 313 = .ok (.imul, 1) := by decide +kernel
theorem d_Model_readBlock_314 : decode b_Model_readBlock 314 = .ok (.iadd, 1) := by decide +kernel
theorem d_Model_readBlock_315 : decode b_Model_readBlock 315 = .ok (.putfield 79, 3) := by decide +kernel
