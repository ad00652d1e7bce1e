theorem d_DeltaRows_takeRow_19 : decode b_DeltaRows_takeRow 19 = .ok (.getfield 9, 3) := by decide +kernel
theorem d_DeltaRows_takeRow_22 : decode b_DeltaRows_takeRow 22 = .ok (.iconst 0, 1) := by decide +kernel
theorem d_DeltaRows_takeRow_23 : decode b_DeltaRows_takeRow 23 = .ok (.aload_n 0, 1) := by decide +kernel
theorem d_DeltaRows_takeRow_24 : decode b_DeltaRows_takeRow 24 = .ok (.getfield 29, 3) := by decide +kernel
theorem d_DeltaRows_takeRow_27 : decode b_DeltaRows_takeRow 27 = .ok (.getfield 149, 3) := by decide +kernel
theorem d_DeltaRows_takeRow_30 : decode b_DeltaRows_takeRow 30 = .ok (.lastore, 1) := by decide +kernel
theorem d_DeltaRows_takeRow_31 : decode b_DeltaRows_takeRow 31 = .ok (.iconst 0, 1) := by decide +kernel
theorem d_DeltaRows_takeRow_32 : decode b_DeltaRows_takeRow 32 = .ok (.istore_n 1, 1) := by decide +kernel
theorem d_DeltaRows_takeRow_33 : decode b_DeltaRows_takeRow 33 = .ok (.iload_n 1, 1) := by decide +kernel
theorem d_DeltaRows_takeRow_34 : decode b_DeltaRows_takeRow 34 = .ok (.aload_n 0, 1) := by decide +kernel
theorem d_DeltaRows_takeRow_35 : decode b_DeltaRows_takeRow 35 = .ok (.getfield 36, 3) := by decide +kernel
theorem d_DeltaRows_takeRow_38 : decode b_DeltaRows_takeRow 38 = .ok (.getfield 59, 3) := by decide +kernel
theorem d_DeltaRows_takeRow_41 : decode b_DeltaRows_takeRow 41 = .ok (.if_icmp .ge 28, 3) := by decide +kernel
theorem d_DeltaRows_takeRow_44 : decode b_DeltaRows_takeRow 44 = .ok (.iconst 0, 1) := by decide +kernel
theorem d_DeltaRows_takeRow_45 : decode b_DeltaRows_takeRow 45 = .ok (.istore_n 2, 1) := by decide +kernel
theorem d_DeltaRows_takeRow_46 : decode b_DeltaRows_takeRow 46 = .ok (.iload_n 2, 1) := by decide +kernel
theorem d_DeltaRows_takeRow_47 : decode b_DeltaRows_takeRow 47 = .ok (.iconst 4, 1) := by decide +kernel
theorem d_DeltaRows_takeRow_48 : decode b_DeltaRows_takeRow 48 = .ok (.if_icmp .ge 15, 3) := by decide +kernel
theorem d_DeltaRows_takeRow_51 : decode b_DeltaRows_takeRow 51 = .ok (.aload_n 0, 1) := by decide +kernel
theorem d_DeltaRows_takeRow_52 : decode b_DeltaRows_takeRow 52 = .ok (.iload_n 1, 1) := by decide +kernel
theorem d_DeltaRows_takeRow_53 : decode b_DeltaRows_takeRow 53 = .ok (.iload_n 2, 1) := by decide +kernel
theorem d_DeltaRows_takeRow_54 : decode b_DeltaRows_takeRow 54 = .ok (.invokevirtual 153, 3) := by decide +kernel
theorem d_DeltaRows_takeRow_57 : decode b_DeltaRows_takeRow 57 = .ok (.iinc 2 1, 3) := by decide +kernel
theorem d_DeltaRows_takeRow_60 : decode b_DeltaRows_takeRow 60 = .ok (.goto (-14), 3) := by decide +kernel
theorem d_DeltaRows_takeRow_63 : decode b_DeltaRows_takeRow 63 = .ok (.iinc 1 1, 3) := by decide +kernel
theorem d_DeltaRows_takeRow_66 : decode b_DeltaRows_takeRow 66 = .ok (.goto (-33), 3) := by decide +kernel
theorem d_DeltaRows_takeRow_69 : decode b_DeltaRows_takeRow 69 = .ok (.return_, 1) := by decide +kernel
theorem d_DeltaRows_takePart_0 : decode b_DeltaRows_takePart 0 = .ok (.aload_n 0, 1) := by decide +kernel
theorem d_DeltaRows_takePart_1 : decode b_DeltaRows_takePart 1 = .ok (.getfield 36, 3) := by decide +kernel
theorem d_DeltaRows_takePart_4 : decode b_DeltaRows_takePart 4 = .ok (.getfield 98, 3) := by decide +kernel
theorem d_DeltaRows_takePart_7 : decode b_DeltaRows_takePart 7 = .ok (.iload_n 1, 1) := by decide +kernel
theorem d_DeltaRows_takePart_8 : decode b_DeltaRows_takePart 8 = .ok (.laload, 1) := by decide +kernel
theorem d_DeltaRows_takePart_9 : decode b_DeltaRows_takePart 9 = .ok (.lstore_n 3, 1) := by decide +kernel
theorem d_DeltaRows_takePart_10 : decode b_DeltaRows_takePart 10 = .ok (.aload_n 0, 1) := by decide +kernel
theorem d_DeltaRows_takePart_11 : decode b_DeltaRows_takePart 11 = .ok (.getfield 36, 3) := by decide +kernel
theorem d_DeltaRows_takePart_14 : decode b_DeltaRows_takePart 14 = .ok (.getfield 105, 3) := by decide +kernel
theorem d_DeltaRows_takePart_17 : decode b_DeltaRows_takePart 17 = .ok (.iload_n 1, 1) := by decide +kernel
theorem d_DeltaRows_takePart_18 : decode b_DeltaRows_takePart 18 = .ok (.iconst 4, 1) := by decide +kernel
theorem d_DeltaRows_takePart_19 : decode b_DeltaRows_takePart 19 = .ok (.imul, 1) := by decide +kernel
theorem d_DeltaRows_takePart_20 : decode b_DeltaRows_takePart 20 = .ok (.iload_n 2, 1) := by decide +kernel
theorem d_DeltaRows_takePart_21 : decode b_DeltaRows_takePart 21 = .ok (.iadd, 1) := by decide +kernel
theorem d_DeltaRows_takePart_22 : decode b_DeltaRows_takePart 22 = .ok (.iaload, 1) := by decide +kernel
theorem d_DeltaRows_takePart_23 : decode b_DeltaRows_takePart 23 = .ok (.istore 5, 2) := by decide +kernel
theorem d_DeltaRows_takePart_25 : decode b_DeltaRows_takePart 25 = .ok (.aload_n 0, 1) := by decide +kernel
theorem d_DeltaRows_takePart_26 : decode b_DeltaRows_takePart 26 = .ok (.getfield 36, 3) := by decide +kernel
theorem d_DeltaRows_takePart_29 : decode b_DeltaRows_takePart 29 = .ok (.getfield 109, 3) := by decide +kernel
theorem d_DeltaRows_takePart_32 : decode b_DeltaRows_takePart 32 = .ok (.iload_n 1, 1) := by decide +kernel
theorem d_DeltaRows_takePart_33 : decode b_DeltaRows_takePart 33 = .ok (.iconst 4, 1) := by decide +kernel
theorem d_DeltaRows_takePart_34 : decode b_DeltaRows_takePart 34 = .ok (.imul, 1) := by decide +kernel
theorem d_DeltaRows_takePart_35 : decode b_DeltaRows_takePart 35 = .ok (.iload_n 2, 1) := by decide +kernel
theorem d_DeltaRows_takePart_36 : decode b_DeltaRows_takePart 36 = .ok (.iadd, 1) := by decide +kernel
theorem d_DeltaRows_takePart_37 : decode b_DeltaRows_takePart 37 = .ok (.iaload, 1) := by decide +kernel
theorem d_DeltaRows_takePart_38 : decode b_DeltaRows_takePart 38 = .ok (.bipush 8, 2) := by decide +kernel
theorem d_DeltaRows_takePart_40 : decode b_DeltaRows_takePart 40 = .ok (.imul, 1) := by decide +kernel
theorem d_DeltaRows_takePart_41 : decode b_DeltaRows_takePart 41 = .ok (.istore 6, 2) := by decide +kernel
theorem d_DeltaRows_takePart_43 : decode b_DeltaRows_takePart 43 = .ok (.iload_n 1, 1) := by decide +kernel
theorem d_DeltaRows_takePart_44 : decode b_DeltaRows_takePart 44 = .ok (.iload_n 2, 1) := by decide +kernel
theorem d_DeltaRows_takePart_45 : decode b_DeltaRows_takePart 45 = .ok (.iconst 1, 1) := by decide +kernel
theorem d_DeltaRows_takePart_46 : decode b_DeltaRows_takePart 46 = .ok (.iadd, 1) := by decide +kernel
theorem d_DeltaRows_takePart_47 : decode b_DeltaRows_takePart 47 = .ok (.aload_n 0, 1) := by decide +kernel
theorem d_DeltaRows_takePart_48 : decode b_DeltaRows_takePart 48 = .ok (.getfield 13, 3) := by decide +kernel
theorem d_DeltaRows_takePart_51 : decode b_DeltaRows_takePart 51 = .ok (.invokestatic 123, 3) := by decide +kernel
theorem d_DeltaRows_takePart_54 : decode b_DeltaRows_takePart 54 = .ok (.istore 7, 2) := by decide +kernel
theorem d_DeltaRows_takePart_56 : decode b_DeltaRows_takePart 56 = .ok (.iload_n 1, 1) := by decide +kernel
theorem d_DeltaRows_takePart_57 : decode b_DeltaRows_takePart 57 = .ok (.iload_n 2, 1) := by decide +kernel
theorem d_DeltaRows_takePart_58 : decode b_DeltaRows_takePart 58 = .ok (.aload_n 0, 1) := by decide +kernel
theorem d_DeltaRows_takePart_59 : decode b_DeltaRows_takePart 59 = .ok (.getfield 13, 3) := by decide +kernel
theorem d_DeltaRows_takePart_62 : decode b_DeltaRows_takePart 62 = .ok (.invokestatic 123, 3) := by decide +kernel
theorem d_DeltaRows_takePart_65 : decode b_DeltaRows_takePart 65 = .ok (.istore 8, 2) := by decide +kernel
theorem d_DeltaRows_takePart_67 : decode b_DeltaRows_takePart 67 = .ok (.iload 8, 2) := by decide +kernel
theorem d_DeltaRows_takePart_69 : decode b_DeltaRows_takePart 69 = .ok (.iload 7, 2) := by decide +kernel
theorem d_DeltaRows_takePart_71 : decode b_DeltaRows_takePart 71 = .ok (.if_icmp .ge 46, 3) := by decide +kernel
theorem d_DeltaRows_takePart_74 : decode b_DeltaRows_takePart 74 = .ok (.aload_n 0, 1) := by decide +kernel
theorem d_DeltaRows_takePart_75 : decode b_DeltaRows_takePart 75 = .ok (.getfield 9, 3) := by decide +kernel
theorem d_DeltaRows_takePart_78 : decode b_DeltaRows_takePart 78 = .ok (.iload 8, 2) := by decide +kernel
theorem d_DeltaRows_takePart_80 : decode b_DeltaRows_takePart 80 = .ok (.aload_n 0, 1) := by decide +kernel
theorem d_DeltaRows_takePart_81 : decode b_DeltaRows_takePart 81 = .ok (.getfield 9, 3) := by decide +kernel
theorem d_DeltaRows_takePart_84 : decode b_DeltaRows_takePart 84 = .ok (.iload 8, 2) := by decide +kernel
theorem d_DeltaRows_takePart_86 : decode b_DeltaRows_takePart 86 = .ok (.iconst 1, 1) := by decide +kernel
theorem d_DeltaRows_takePart_87 : decode b_DeltaRows_takePart 87 = .ok (.isub, 1) := by decide +kernel
theorem d_DeltaRows_takePart_88 : decode b_DeltaRows_takePart 88 = .ok (.laload, 1) := by decide +kernel
theorem d_DeltaRows_takePart_89 : decode b_DeltaRows_takePart 89 = .ok (.lload_n 3, 1) := by decide +kernel
theorem d_DeltaRows_takePart_90 : decode b_DeltaRows_takePart 90 = .ok (.ladd, 1) := by decide +kernel
theorem d_DeltaRows_takePart_91 : decode b_DeltaRows_takePart 91 = .ok (.aload_n 0, 1) := by decide +kernel
theorem d_DeltaRows_takePart_92 : decode b_DeltaRows_takePart 92 = .ok (.getfield 20, 3) := by decide +kernel
theorem d_DeltaRows_takePart_95 : decode b_DeltaRows_takePart 95 = .ok (.iload 6, 2) := by decide +kernel
theorem d_DeltaRows_takePart_97 : decode b_DeltaRows_takePart 97 = .ok (.iload 5, 2) := by decide +kernel
theorem d_DeltaRows_takePart_99 : decode b_DeltaRows_takePart 99 = .ok (.invokevirtual 156, 3) := by decide +kernel
theorem d_DeltaRows_takePart_102 : decode b_DeltaRows_takePart 102 = .ok (.ladd, 1) := by decide +kernel
theorem d_DeltaRows_takePart_103 : decode b_DeltaRows_takePart 103 = .ok (.lastore, 1) := by decide +kernel
theorem d_DeltaRows_takePart_104 : decode b_DeltaRows_takePart 104 = .ok (.iload 6, 2) := by decide +kernel
theorem d_DeltaRows_takePart_106 : decode b_DeltaRows_takePart 106 = .ok (.iload 5, 2) := by decide +kernel
theorem d_DeltaRows_takePart_108 : decode b_DeltaRows_takePart 108 = .ok (.iadd, 1) := by decide +kernel
theorem d_DeltaRows_takePart_109 : decode b_DeltaRows_takePart 109 = .ok (.istore 6, 2) := by decide +kernel
theorem d_DeltaRows_takePart_111 : decode b_DeltaRows_takePart 111 = .ok (.iinc 8 1, 3) := by decide +kernel
theorem d_DeltaRows_takePart_114 : decode b_DeltaRows_takePart 114 = .ok (.goto (-47), 3) := by decide +kernel
theorem d_DeltaRows_takePart_117 : decode b_DeltaRows_takePart 117 = .ok (.return_, 1) := by decide +kernel
theorem d_DeltaRows_blocksFor_0 : decode b_DeltaRows_blocksFor 0 = .ok (.iload_n 0, 1) := by decide +kernel
theorem d_DeltaRows_blocksFor_1 : decode b_DeltaRows_blocksFor 1 = .ok (.iconst 1, 1) := by decide +kernel
theorem d_DeltaRows_blocksFor_2 : decode b_DeltaRows_blocksFor 2 = .ok (.if_icmp .le 17, 3) := by decide +kernel
theorem d_DeltaRows_blocksFor_5 : decode b_DeltaRows_blocksFor 5 = .ok (.iload_n 0, 1) := by decide +kernel
theorem d_DeltaRows_blocksFor_6 : decode b_DeltaRows_blocksFor 6 = .ok (.iconst 1, 1) := by decide +kernel
theorem d_DeltaRows_blocksFor_7 : decode b_DeltaRows_blocksFor 7 = .ok (.isub, 1) := by decide +kernel
theorem d_DeltaRows_blocksFor_8 : decode b_DeltaRows_blocksFor 8 = .ok (.bipush 64, 2) := by decide +kernel
theorem d_DeltaRows_blocksFor_10 : decode b_DeltaRows_blocksFor 10 = .ok (.iadd, 1) := by decide +kernel
theorem d_DeltaRows_blocksFor_11 : decode b_DeltaRows_blocksFor 11 = .ok (.iconst 1, 1) := by decide +kernel
theorem d_DeltaRows_blocksFor_12 : decode b_DeltaRows_blocksFor 12 = .ok (.isub, 1) := by decide +kernel
theorem d_DeltaRows_blocksFor_13 : decode b_DeltaRows_blocksFor 13 = .ok (.bipush 64, 2) := by decide +kernel
theorem d_DeltaRows_blocksFor_15 : decode b_DeltaRows_blocksFor 15 = .ok (.idiv, 1) := by decide +kernel
theorem d_DeltaRows_blocksFor_16 : decode b_DeltaRows_blocksFor 16 = .ok (.goto 4, 3) := by decide +kernel
theorem d_DeltaRows_blocksFor_19 : decode b_DeltaRows_blocksFor 19 = .ok (.iconst 0, 1) := by decide +kernel
theorem d_DeltaRows_blocksFor_20 : decode b_DeltaRows_blocksFor 20 = .ok (.ireturn, 1) := by decide +kernel
theorem d_DeltaRows_partEdge_0 : decode b_DeltaRows_partEdge 0 = .ok (.iconst 1, 1) := by decide +kernel
theorem d_DeltaRows_partEdge_1 : decode b_DeltaRows_partEdge 1 = .ok (.iload_n 0, 1) := by decide +kernel
theorem d_DeltaRows_partEdge_2 : decode b_DeltaRows_partEdge 2 = .ok (.bipush 64, 2) := by decide +kernel
theorem d_DeltaRows_partEdge_4 : decode b_DeltaRows_partEdge 4 = .ok (.imul, 1) := by decide +kernel
theorem d_DeltaRows_partEdge_5 : decode b_DeltaRows_partEdge 5 = .ok (.iadd, 1) := by decide +kernel
theorem d_DeltaRows_partEdge_6 : decode b_DeltaRows_partEdge 6 = .ok (.iload_n 1, 1) := by decide +kernel
theorem d_DeltaRows_partEdge_7 : decode b_DeltaRows_partEdge 7 = .ok (.bipush 16, 2) := by decide +kernel
theorem d_DeltaRows_partEdge_9 : decode b_DeltaRows_partEdge 9 = .ok (.imul, 1) := by decide +kernel
theorem d_DeltaRows_partEdge_10 : decode b_DeltaRows_partEdge 10 = .ok (.iadd, 1) := by decide +kernel
theorem d_DeltaRows_partEdge_11 : decode b_DeltaRows_partEdge 11 = .ok (.iload_n 2, 1) := by decide +kernel
theorem d_DeltaRows_partEdge_12 : decode b_DeltaRows_partEdge 12 = .ok (.invokestatic 160, 3) := by decide +kernel
theorem d_DeltaRows_partEdge_15 : decode b_DeltaRows_partEdge 15 = .ok (.ireturn, 1) := by decide +kernel
theorem d_DeltaRows_partBytes_0 : decode b_DeltaRows_partBytes 0 = .ok (.iload_n 0, 1) := by decide +kernel
theorem d_DeltaRows_partBytes_1 : decode b_DeltaRows_partBytes 1 = .ok (.bipush 16, 2) := by decide +kernel
theorem d_DeltaRows_partBytes_3 : decode b_DeltaRows_partBytes 3 = .ok (.imul, 1) := by decide +kernel
theorem d_DeltaRows_partBytes_4 : decode b_DeltaRows_partBytes 4 = .ok (.bipush 8, 2) := by decide +kernel
theorem d_DeltaRows_partBytes_6 : decode b_DeltaRows_partBytes 6 = .ok (.idiv, 1) := by decide +kernel
theorem d_DeltaRows_partBytes_7 : decode b_DeltaRows_partBytes 7 = .ok (.ireturn, 1) := by decide +kernel
theorem d_DeltaRows_zigzag_0 : decode b_DeltaRows_zigzag 0 = .ok (.lload_n 0, 1) := by decide +kernel
theorem d_DeltaRows_zigzag_1 : decode b_DeltaRows_zigzag 1 = .ok (.iconst 1, 1) := by decide +kernel
theorem d_DeltaRows_zigzag_2 : decode b_DeltaRows_zigzag 2 = .ok (.lshl, 1) := by decide +kernel
theorem d_DeltaRows_zigzag_3 : decode b_DeltaRows_zigzag 3 = .ok (.lload_n 0, 1) := by decide +kernel
theorem d_DeltaRows_zigzag_4 : decode b_DeltaRows_zigzag 4 = .ok (.bipush 63, 2) := by decide +kernel
theorem d_DeltaRows_zigzag_6 : decode b_DeltaRows_zigzag 6 = .ok (.lshr, 1) := by decide +kernel
theorem d_DeltaRows_zigzag_7 : decode b_DeltaRows_zigzag 7 = .ok (.lxor, 1) := by decide +kernel
theorem d_DeltaRows_zigzag_8 : decode b_DeltaRows_zigzag 8 = .ok (.lreturn, 1) := by decide +kernel
theorem d_DeltaRows_unzigzag_0 : decode b_DeltaRows_unzigzag 0 = .ok (.lload_n 0, 1) := by decide +kernel
theorem d_DeltaRows_unzigzag_1 : decode b_DeltaRows_unzigzag 1 = .ok (.iconst 1, 1) := by decide +kernel
theorem d_DeltaRows_unzigzag_2 : decode b_DeltaRows_unzigzag 2 = .ok (.lushr, 1) := by decide +kernel
theorem d_DeltaRows_unzigzag_3 : decode b_DeltaRows_unzigzag 3 = .ok (.lload_n 0, 1) := by decide +kernel
theorem d_DeltaRows_unzigzag_4 : decode b_DeltaRows_unzigzag 4 = .ok (.lconst 1, 1) := by decide +kernel
theorem d_DeltaRows_unzigzag_5 : decode b_DeltaRows_unzigzag 5 = .ok (.land, 1) := by decide +kernel
theorem d_DeltaRows_unzigzag_6 : decode b_DeltaRows_unzigzag 6 = .ok (.lneg, 1) := by decide +kernel
theorem d_DeltaRows_unzigzag_7 : decode b_DeltaRows_unzigzag 7 = .ok (.lxor, 1) := by decide +kernel
theorem d_DeltaRows_unzigzag_8 : decode b_DeltaRows_unzigzag 8 = .ok (.lreturn, 1) := by decide +kernel
