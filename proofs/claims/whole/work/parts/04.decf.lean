theorem d_DeltaRows_writeBlock_5 : decode b_DeltaRows_writeBlock 5 = .ok (.lstore_n 2, 1) := by decide +kernel
theorem d_DeltaRows_writeBlock_6 : decode b_DeltaRows_writeBlock 6 = .ok (.aload_n 0, 1) := by decide +kernel
theorem d_DeltaRows_writeBlock_7 : decode b_DeltaRows_writeBlock 7 = .ok (.getfield 36, 3) := by decide +kernel
theorem d_DeltaRows_writeBlock_10 : decode b_DeltaRows_writeBlock 10 = .ok (.getfield 98, 3) := by decide +kernel
theorem d_DeltaRows_writeBlock_13 : decode b_DeltaRows_writeBlock 13 = .ok (.iload_n 1, 1) := by decide +kernel
theorem d_DeltaRows_writeBlock_14 : decode b_DeltaRows_writeBlock 14 = .ok (.lload_n 2, 1) := by decide +kernel
theorem d_DeltaRows_writeBlock_15 : decode b_DeltaRows_writeBlock 15 = .ok (.lastore, 1) := by decide +kernel
theorem d_DeltaRows_writeBlock_16 : decode b_DeltaRows_writeBlock 16 = .ok (.aload_n 0, 1) := by decide +kernel
theorem d_DeltaRows_writeBlock_17 : decode b_DeltaRows_writeBlock 17 = .ok (.getfield 20, 3) := by decide +kernel
theorem d_DeltaRows_writeBlock_20 : decode b_DeltaRows_writeBlock 20 = .ok (.lload_n 2, 1) := by decide +kernel
theorem d_DeltaRows_writeBlock_21 : decode b_DeltaRows_writeBlock 21 = .ok (.invokestatic 51, 3) := by decide +kernel
theorem d_DeltaRows_writeBlock_24 : decode b_DeltaRows_writeBlock 24 = .ok (.invokevirtual 47, 3) := by decide +kernel
theorem d_DeltaRows_writeBlock_27 : decode b_DeltaRows_writeBlock 27 = .ok (.iconst 0, 1) := by decide +kernel
theorem d_DeltaRows_writeBlock_28 : decode b_DeltaRows_writeBlock 28 = .ok (.istore 4, 2) := by decide +kernel
theorem d_DeltaRows_writeBlock_30 : decode b_DeltaRows_writeBlock 30 = .ok (.iload 4, 2) := by decide +kernel
theorem d_DeltaRows_writeBlock_32 : decode b_DeltaRows_writeBlock 32 = .ok (.iconst 4, 1) := by decide +kernel
theorem d_DeltaRows_writeBlock_33 : decode b_DeltaRows_writeBlock 33 = .ok (.if_icmp .ge 44, 3) := by decide +kernel
theorem d_DeltaRows_writeBlock_36 : decode b_DeltaRows_writeBlock 36 = .ok (.aload_n 0, 1) := by decide +kernel
theorem d_DeltaRows_writeBlock_37 : decode b_DeltaRows_writeBlock 37 = .ok (.iload_n 1, 1) := by decide +kernel
theorem d_DeltaRows_writeBlock_38 : decode b_DeltaRows_writeBlock 38 = .ok (.iload 4, 2) := by decide +kernel
theorem d_DeltaRows_writeBlock_40 : decode b_DeltaRows_writeBlock 40 = .ok (.invokevirtual 116, 3) := by decide +kernel
theorem d_DeltaRows_writeBlock_43 : decode b_DeltaRows_writeBlock 43 = .ok (.istore 5, 2) := by decide +kernel
theorem d_DeltaRows_writeBlock_45 : decode b_DeltaRows_writeBlock 45 = .ok (.aload_n 0, 1) := by decide +kernel
theorem d_DeltaRows_writeBlock_46 : decode b_DeltaRows_writeBlock 46 = .ok (.getfield 36, 3) := by decide +kernel
theorem d_DeltaRows_writeBlock_49 : decode b_DeltaRows_writeBlock 49 = .ok (.getfield 105, 3) := by decide +kernel
theorem d_DeltaRows_writeBlock_52 : decode b_DeltaRows_writeBlock 52 = .ok (.iload_n 1, 1) := by decide +kernel
theorem d_DeltaRows_writeBlock_53 : decode b_DeltaRows_writeBlock 53 = .ok (.iconst 4, 1) := by decide +kernel
theorem d_DeltaRows_writeBlock_54 : decode b_DeltaRows_writeBlock 54 = .ok (.imul, 1) := by decide +kernel
theorem d_DeltaRows_writeBlock_55 : decode b_DeltaRows_writeBlock 55 = .ok (.iload 4, 2) := by decide +kernel
theorem d_DeltaRows_writeBlock_57 : decode b_DeltaRows_writeBlock 57 = .ok (.iadd, 1) := by decide +kernel
theorem d_DeltaRows_writeBlock_58 : decode b_DeltaRows_writeBlock 58 = .ok (.iload 5, 2) := by decide +kernel
theorem d_DeltaRows_writeBlock_60 : decode b_DeltaRows_writeBlock 60 = .ok (.iastore, 1) := by decide +kernel
theorem d_DeltaRows_writeBlock_61 : decode b_DeltaRows_writeBlock 61 = .ok (.aload_n 0, 1) := by decide +kernel
theorem d_DeltaRows_writeBlock_62 : decode b_DeltaRows_writeBlock 62 = .ok (.getfield 20, 3) := by decide +kernel
theorem d_DeltaRows_writeBlock_65 : decode b_DeltaRows_writeBlock 65 = .ok (.iload 5, 2) := by decide +kernel
theorem d_DeltaRows_writeBlock_67 : decode b_DeltaRows_writeBlock 67 = .ok (.invokevirtual 92, 3) := by decide +kernel
theorem d_DeltaRows_writeBlock_70 : decode b_DeltaRows_writeBlock 70 = .ok (.pop, 1) := by decide +kernel
theorem d_DeltaRows_writeBlock_71 : decode b_DeltaRows_writeBlock 71 = .ok (.iinc 4 1, 3) := by decide +kernel
theorem d_DeltaRows_writeBlock_74 : decode b_DeltaRows_writeBlock 74 = .ok (.goto (-44), 3) := by decide +kernel
theorem d_DeltaRows_writeBlock_77 : decode b_DeltaRows_writeBlock 77 = .ok (.iconst 0, 1) := by decide +kernel
theorem d_DeltaRows_writeBlock_78 : decode b_DeltaRows_writeBlock 78 = .ok (.istore 4, 2) := by decide +kernel
theorem d_DeltaRows_writeBlock_80 : decode b_DeltaRows_writeBlock 80 = .ok (.iload 4, 2) := by decide +kernel
theorem d_DeltaRows_writeBlock_82 : decode b_DeltaRows_writeBlock 82 = .ok (.iconst 4, 1) := by decide +kernel
theorem d_DeltaRows_writeBlock_83 : decode b_DeltaRows_writeBlock 83 = .ok (.if_icmp .ge 37, 3) := by decide +kernel
theorem d_DeltaRows_writeBlock_86 : decode b_DeltaRows_writeBlock 86 = .ok (.aload_n 0, 1) := by decide +kernel
theorem d_DeltaRows_writeBlock_87 : decode b_DeltaRows_writeBlock 87 = .ok (.getfield 36, 3) := by decide +kernel
theorem d_DeltaRows_writeBlock_90 : decode b_DeltaRows_writeBlock 90 = .ok (.getfield 109, 3) := by decide +kernel
theorem d_DeltaRows_writeBlock_93 : decode b_DeltaRows_writeBlock 93 = .ok (.iload_n 1, 1) := by decide +kernel
theorem d_DeltaRows_writeBlock_94 : decode b_DeltaRows_writeBlock 94 = .ok (.iconst 4, 1) := by decide +kernel
theorem d_DeltaRows_writeBlock_95 : decode b_DeltaRows_writeBlock 95 = .ok (.imul, 1) := by decide +kernel
theorem d_DeltaRows_writeBlock_96 : decode b_DeltaRows_writeBlock 96 = .ok (.iload 4, 2) := by decide +kernel
theorem d_DeltaRows_writeBlock_98 : decode b_DeltaRows_writeBlock 98 = .ok (.iadd, 1) := by decide +kernel
theorem d_DeltaRows_writeBlock_99 : decode b_DeltaRows_writeBlock 99 = .ok (.aload_n 0, 1) := by decide +kernel
theorem d_DeltaRows_writeBlock_100 : decode b_DeltaRows_writeBlock 100 = .ok (.getfield 20, 3) := by decide +kernel
theorem d_DeltaRows_writeBlock_103 : decode b_DeltaRows_writeBlock 103 = .ok (.getfield 65, 3) := by decide +kernel
theorem d_DeltaRows_writeBlock_106 : decode b_DeltaRows_writeBlock 106 = .ok (.iastore, 1) := by decide +kernel
theorem d_DeltaRows_writeBlock_107 : decode b_DeltaRows_writeBlock 107 = .ok (.aload_n 0, 1) := by decide +kernel
theorem d_DeltaRows_writeBlock_108 : decode b_DeltaRows_writeBlock 108 = .ok (.iload_n 1, 1) := by decide +kernel
theorem d_DeltaRows_writeBlock_109 : decode b_DeltaRows_writeBlock 109 = .ok (.iload 4, 2) := by decide +kernel
theorem d_DeltaRows_writeBlock_111 : decode b_DeltaRows_writeBlock 111 = .ok (.invokevirtual 120, 3) := by decide +kernel
theorem d_DeltaRows_writeBlock_114 : decode b_DeltaRows_writeBlock 114 = .ok (.iinc 4 1, 3) := by decide +kernel
theorem d_DeltaRows_writeBlock_117 : decode b_DeltaRows_writeBlock 117 = .ok (.goto (-37), 3) := by decide +kernel
theorem d_DeltaRows_writeBlock_120 : decode b_DeltaRows_writeBlock 120 = .ok (.return_, 1) := by decide +kernel
theorem d_DeltaRows_leastDifference_0 : decode b_DeltaRows_leastDifference 0 = .ok (.iload_n 1, 1) := by decide +kernel
theorem d_DeltaRows_leastDifference_1 : decode b_DeltaRows_leastDifference 1 = .ok (.iconst 0, 1) := by decide +kernel
theorem d_DeltaRows_leastDifference_2 : decode b_DeltaRows_leastDifference 2 = .ok (.aload_n 0, 1) := by decide +kernel
theorem d_DeltaRows_leastDifference_3 : decode b_DeltaRows_leastDifference 3 = .ok (.getfield 13, 3) := by decide +kernel
theorem d_DeltaRows_leastDifference_6 : decode b_DeltaRows_leastDifference 6 = .ok (.invokestatic 123, 3) := by decide +kernel
theorem d_DeltaRows_leastDifference_9 : decode b_DeltaRows_leastDifference 9 = .ok (.istore_n 2, 1) := by decide +kernel
theorem d_DeltaRows_leastDifference_10 : decode b_DeltaRows_leastDifference 10 = .ok (.iload_n 1, 1) := by decide +kernel
theorem d_DeltaRows_leastDifference_11 : decode b_DeltaRows_leastDifference 11 = .ok (.iconst 4, 1) := by decide +kernel
theorem d_DeltaRows_leastDifference_12 : decode b_DeltaRows_leastDifference 12 = .ok (.aload_n 0, 1) := by decide +kernel
theorem d_DeltaRows_leastDifference_13 : decode b_DeltaRows_leastDifference 13 = .ok (.getfield 13, 3) := by decide +kernel
theorem d_DeltaRows_leastDifference_16 : decode b_DeltaRows_leastDifference 16 = .ok (.invokestatic 123, 3) := by decide +kernel
theorem d_DeltaRows_leastDifference_19 : decode b_DeltaRows_leastDifference 19 = .ok (.istore_n 3, 1) := by decide +kernel
theorem d_DeltaRows_leastDifference_20 : decode b_DeltaRows_leastDifference 20 = .ok (.aload_n 0, 1) := by decide +kernel
theorem d_DeltaRows_leastDifference_21 : decode b_DeltaRows_leastDifference 21 = .ok (.getfield 9, 3) := by decide +kernel
theorem d_DeltaRows_leastDifference_24 : decode b_DeltaRows_leastDifference 24 = .ok (.iload_n 2, 1) := by decide +kernel
theorem d_DeltaRows_leastDifference_25 : decode b_DeltaRows_leastDifference 25 = .ok (.laload, 1) := by decide +kernel
theorem d_DeltaRows_leastDifference_26 : decode b_DeltaRows_leastDifference 26 = .ok (.aload_n 0, 1) := by decide +kernel
theorem d_DeltaRows_leastDifference_27 : decode b_DeltaRows_leastDifference 27 = .ok (.getfield 9, 3) := by decide +kernel
theorem d_DeltaRows_leastDifference_30 : decode b_DeltaRows_leastDifference 30 = .ok (.iload_n 2, 1) := by decide +kernel
theorem d_DeltaRows_leastDifference_31 : decode b_DeltaRows_leastDifference 31 = .ok (.iconst 1, 1) := by decide +kernel
theorem d_DeltaRows_leastDifference_32 : decode b_DeltaRows_leastDifference 32 = .ok (.isub, 1) := by decide +kernel
theorem d_DeltaRows_leastDifference_33 : decode b_DeltaRows_leastDifference 33 = .ok (.laload, 1) := by decide +kernel
theorem d_DeltaRows_leastDifference_34 : decode b_DeltaRows_leastDifference 34 = .ok (.lsub, 1) := by decide +kernel
theorem d_DeltaRows_leastDifference_35 : decode b_DeltaRows_leastDifference 35 = .ok (.lstore 4, 2) := by decide +kernel
theorem d_DeltaRows_leastDifference_37 : decode b_DeltaRows_leastDifference 37 = .ok (.iload_n 2, 1) := by decide +kernel
theorem d_DeltaRows_leastDifference_38 : decode b_DeltaRows_leastDifference 38 = .ok (.iconst 1, 1) := by decide +kernel
theorem d_DeltaRows_leastDifference_39 : decode b_DeltaRows_leastDifference 39 = .ok (.iadd, 1) := by decide +kernel
theorem d_DeltaRows_leastDifference_40 : decode b_DeltaRows_leastDifference 40 = .ok (.istore 6, 2) := by decide +kernel
theorem d_DeltaRows_leastDifference_42 : decode b_DeltaRows_leastDifference 42 = .ok (.iload 6, 2) := by decide +kernel
theorem d_DeltaRows_leastDifference_44 : decode b_DeltaRows_leastDifference 44 = .ok (.iload_n 3, 1) := by decide +kernel
theorem d_DeltaRows_leastDifference_45 : decode b_DeltaRows_leastDifference 45 = .ok (.if_icmp .ge 33, 3) := by decide +kernel
theorem d_DeltaRows_leastDifference_48 : decode b_DeltaRows_leastDifference 48 = .ok (.lload 4, 2) := by decide +kernel
theorem d_DeltaRows_leastDifference_50 : decode b_DeltaRows_leastDifference 50 = .ok (.aload_n 0, 1) := by decide +kernel
theorem d_DeltaRows_leastDifference_51 : decode b_DeltaRows_leastDifference 51 = .ok (.getfield 9, 3) := by decide +kernel
theorem d_DeltaRows_leastDifference_54 : decode b_DeltaRows_leastDifference 54 = .ok (.iload 6, 2) := by decide +kernel
theorem d_DeltaRows_leastDifference_56 : decode b_DeltaRows_leastDifference 56 = .ok (.laload, 1) := by decide +kernel
theorem d_DeltaRows_leastDifference_57 : decode b_DeltaRows_leastDifference 57 = .ok (.aload_n 0, 1) := by decide +kernel
theorem d_DeltaRows_leastDifference_58 : decode b_DeltaRows_leastDifference 58 = .ok (.getfield 9, 3) := by decide +kernel
theorem d_DeltaRows_leastDifference_61 : decode b_DeltaRows_leastDifference 61 = .ok (.iload 6, 2) := by decide +kernel
theorem d_DeltaRows_leastDifference_63 : decode b_DeltaRows_leastDifference 63 = .ok (.iconst 1, 1) := by decide +kernel
theorem d_DeltaRows_leastDifference_64 : decode b_DeltaRows_leastDifference 64 = .ok (.isub, 1) := by decide +kernel
theorem d_DeltaRows_leastDifference_65 : decode b_DeltaRows_leastDifference 65 = .ok (.laload, 1) := by decide +kernel
theorem d_DeltaRows_leastDifference_66 : decode b_DeltaRows_leastDifference 66 = .ok (.lsub, 1) := by decide +kernel
theorem d_DeltaRows_leastDifference_67 : decode b_DeltaRows_leastDifference 67 = .ok (.invokestatic 127, 3) := by decide +kernel
theorem d_DeltaRows_leastDifference_70 : decode b_DeltaRows_leastDifference 70 = .ok (.lstore 4, 2) := by decide +kernel
theorem d_DeltaRows_leastDifference_72 : decode b_DeltaRows_leastDifference 72 = .ok (.iinc 6 1, 3) := by decide +kernel
theorem d_DeltaRows_leastDifference_75 : decode b_DeltaRows_leastDifference 75 = .ok (.goto (-33), 3) := by decide +kernel
theorem d_DeltaRows_leastDifference_78 : decode b_DeltaRows_leastDifference 78 = .ok (.lload 4, 2) := by decide +kernel
theorem d_DeltaRows_leastDifference_80 : decode b_DeltaRows_leastDifference 80 = .ok (.lreturn, 1) := by decide +kernel
theorem d_DeltaRows_neededWidth_0 : decode b_DeltaRows_neededWidth 0 = .ok (.aload_n 0, 1) := by decide +kernel
theorem d_DeltaRows_neededWidth_1 : decode b_DeltaRows_neededWidth 1 = .ok (.getfield 36, 3) := by decide +kernel
theorem d_DeltaRows_neededWidth_4 : decode b_DeltaRows_neededWidth 4 = .ok (.getfield 98, 3) := by decide +kernel
theorem d_DeltaRows_neededWidth_7 : decode b_DeltaRows_neededWidth 7 = .ok (.iload_n 1, 1) := by decide +kernel
theorem d_DeltaRows_neededWidth_8 : decode b_DeltaRows_neededWidth 8 = .ok (.laload, 1) := by decide +kernel
theorem d_DeltaRows_neededWidth_9 : decode b_DeltaRows_neededWidth 9 = .ok (.lstore_n 3, 1) := by decide +kernel
theorem d_DeltaRows_neededWidth_10 : decode b_DeltaRows_neededWidth 10 = .ok (.iload_n 1, 1) := by decide +kernel
theorem d_DeltaRows_neededWidth_11 : decode b_DeltaRows_neededWidth 11 = .ok (.iload_n 2, 1) := by decide +kernel
theorem d_DeltaRows_neededWidth_12 : decode b_DeltaRows_neededWidth 12 = .ok (.iconst 1, 1) := by decide +kernel
theorem d_DeltaRows_neededWidth_13 : decode b_DeltaRows_neededWidth 13 = .ok (.iadd, 1) := by decide +kernel
theorem d_DeltaRows_neededWidth_14 : decode b_DeltaRows_neededWidth 14 = .ok (.aload_n 0, 1) := by decide +kernel
theorem d_DeltaRows_neededWidth_15 : decode b_DeltaRows_neededWidth 15 = .ok (.getfield 13, 3) := by decide +kernel
theorem d_DeltaRows_neededWidth_18 : decode b_DeltaRows_neededWidth 18 = .ok (.invokestatic 123, 3) := by decide +kernel
theorem d_DeltaRows_neededWidth_21 : decode b_DeltaRows_neededWidth 21 = .ok (.istore 5, 2) := by decide +kernel
theorem d_DeltaRows_neededWidth_23 : decode b_DeltaRows_neededWidth 23 = .ok (.lconst 0, 1) := by decide +kernel
theorem d_DeltaRows_neededWidth_24 : decode b_DeltaRows_neededWidth 24 = .ok (.lstore 6, 2) := by decide +kernel
theorem d_DeltaRows_neededWidth_26 : decode b_DeltaRows_neededWidth 26 = .ok (.iload_n 1, 1) := by decide +kernel
theorem d_DeltaRows_neededWidth_27 : decode b_DeltaRows_neededWidth 27 = .ok (.iload_n 2, 1) := by decide +kernel
theorem d_DeltaRows_neededWidth_28 : decode b_DeltaRows_neededWidth 28 = .ok (.aload_n 0, 1) := by decide +kernel
theorem d_DeltaRows_neededWidth_29 : decode b_DeltaRows_neededWidth 29 = .ok (.getfield 13, 3) := by decide +kernel
theorem d_DeltaRows_neededWidth_32 : decode b_DeltaRows_neededWidth 32 = .ok (.invokestatic 123, 3) := by decide +kernel
theorem d_DeltaRows_neededWidth_35 : decode b_DeltaRows_neededWidth 35 = .ok (.istore 8, 2) := by decide +kernel
theorem d_DeltaRows_neededWidth_37 : decode b_DeltaRows_neededWidth 37 = .ok (.iload 8, 2) := by decide +kernel
theorem d_DeltaRows_neededWidth_39 : decode b_DeltaRows_neededWidth 39 = .ok (.iload 5, 2) := by decide +kernel
theorem d_DeltaRows_neededWidth_41 : decode b_DeltaRows_neededWidth 41 = .ok (.if_icmp .ge 33, 3) := by decide +kernel
theorem d_DeltaRows_neededWidth_44 : decode b_DeltaRows_neededWidth 44 = .ok (.lload 6, 2) := by decide +kernel
theorem d_DeltaRows_neededWidth_46 : decode b_DeltaRows_neededWidth 46 = .ok (.aload_n 0, 1) := by decide +kernel
theorem d_DeltaRows_neededWidth_47 : decode b_DeltaRows_neededWidth 47 = .ok (.getfield 9, 3) := by decide +kernel
theorem d_DeltaRows_neededWidth_50 : decode b_DeltaRows_neededWidth 50 = .ok (.iload 8, 2) := by decide +kernel
theorem d_DeltaRows_neededWidth_52 : decode b_DeltaRows_neededWidth 52 = .ok (.laload, 1) := by decide +kernel
theorem d_DeltaRows_neededWidth_53 : decode b_DeltaRows_neededWidth 53 = .ok (.aload_n 0, 1) := by decide +kernel
theorem d_DeltaRows_neededWidth_54 : decode b_DeltaRows_neededWidth 54 = .ok (.getfield 9, 3) := by decide +kernel
theorem d_DeltaRows_neededWidth_57 : decode b_DeltaRows_neededWidth 57 = .ok (.iload 8, 2) := by decide +kernel
theorem d_DeltaRows_neededWidth_59 : decode b_DeltaRows_neededWidth 59 = .ok (.iconst 1, 1) := by decide +kernel
theorem d_DeltaRows_neededWidth_60 : decode b_DeltaRows_neededWidth 60 = .ok (.isub, 1) := by decide +kernel
theorem d_DeltaRows_neededWidth_61 : decode b_DeltaRows_neededWidth 61 = .ok (.laload, 1) := by decide +kernel
theorem d_DeltaRows_neededWidth_62 : decode b_DeltaRows_neededWidth 62 = .ok (.lsub, 1) := by decide +kernel
theorem d_DeltaRows_neededWidth_63 : decode b_DeltaRows_neededWidth 63 = .ok (.lload_n 3, 1) := by decide +kernel
theorem d_DeltaRows_neededWidth_64 : decode b_DeltaRows_neededWidth 64 = .ok (.lsub, 1) := by decide +kernel
theorem d_DeltaRows_neededWidth_65 : decode b_DeltaRows_neededWidth 65 = .ok (.lor, 1) := by decide +kernel
theorem d_DeltaRows_neededWidth_66 : decode b_DeltaRows_neededWidth 66 = .ok (.lstore 6, 2) := by decide +kernel
theorem d_DeltaRows_neededWidth_68 : decode b_DeltaRows_neededWidth 68 = .ok (.iinc 8 1, 3) := by decide +kernel
theorem d_DeltaRows_neededWidth_71 : decode b_DeltaRows_neededWidth 71 = .ok (.goto (-34), 3) := by decide +kernel
theorem d_DeltaRows_neededWidth_74 : decode b_DeltaRows_neededWidth 74 = .ok (.bipush 64, 2) := by decide +kernel
theorem d_DeltaRows_neededWidth_76 : decode b_DeltaRows_neededWidth 76 = .ok (.lload 6, 2) := by decide +kernel
theorem d_DeltaRows_neededWidth_78 : decode b_DeltaRows_neededWidth 78 = .ok (.invokestatic 133, 3) := by decide +kernel
theorem d_DeltaRows_neededWidth_81 : decode b_DeltaRows_neededWidth 81 = .ok (.isub, 1) := by decide +kernel
theorem d_DeltaRows_neededWidth_82 : decode b_DeltaRows_neededWidth 82 = .ok (.ireturn, 1) := by decide +kernel
theorem d_DeltaRows_writePart_0 : decode b_DeltaRows_writePart 0 = .ok (.aload_n 0, 1) := by decide +kernel
theorem d_DeltaRows_writePart_1 : decode b_DeltaRows_writePart 1 = .ok (.getfield 36, 3) := by decide +kernel
theorem d_DeltaRows_writePart_4 : decode b_DeltaRows_writePart 4 = .ok (.getfield 98, 3) := by decide +kernel
theorem d_DeltaRows_writePart_7 : decode b_DeltaRows_writePart 7 = .ok (.iload_n 1, 1) := by decide +kernel
theorem d_DeltaRows_writePart_8 : decode b_DeltaRows_writePart 8 = .ok (.laload, 1) := by decide +kernel
theorem d_DeltaRows_writePart_9 : decode b_DeltaRows_writePart 9 = .ok (.lstore_n 3, 1) := by decide +kernel
theorem d_DeltaRows_writePart_10 : decode b_DeltaRows_writePart 10 = .ok (.aload_n 0, 1) := by decide +kernel
theorem d_DeltaRows_writePart_11 : decode b_DeltaRows_writePart 11 = .ok (.getfield 36, 3) := by decide +kernel
theorem d_DeltaRows_writePart_14 : decode b_DeltaRows_writePart 14 = .ok (.getfield 105, 3) := by decide +kernel
theorem d_DeltaRows_writePart_17 : decode b_DeltaRows_writePart 17 = .ok (.iload_n 1, 1) := by decide +kernel
theorem d_DeltaRows_writePart_18 : decode b_DeltaRows_writePart 18 = .ok (.iconst 4, 1) := by decide +kernel
theorem d_DeltaRows_writePart_19 : decode b_DeltaRows_writePart 19 = .ok (.imul, 1) := by decide +kernel
theorem d_DeltaRows_writePart_20 : decode b_DeltaRows_writePart 20 = .ok (.iload_n 2, 1) := by decide +kernel
theorem d_DeltaRows_writePart_21 : decode b_DeltaRows_writePart 21 = .ok (.iadd, 1) := by decide +kernel
theorem d_DeltaRows_writePart_22 : decode b_DeltaRows_writePart 22 = .ok (.iaload, 1) := by decide +kernel
theorem d_DeltaRows_writePart_23 : decode b_DeltaRows_writePart 23 = .ok (.istore 5, 2) := by decide +kernel
theorem d_DeltaRows_writePart_25 : decode b_DeltaRows_writePart 25 = .ok (.iload_n 1, 1) := by decide +kernel
theorem d_DeltaRows_writePart_26 : decode b_DeltaRows_writePart 26 = .ok (.iload_n 2, 1) := by decide +kernel
theorem d_DeltaRows_writePart_27 : decode b_DeltaRows_writePart 27 = .ok (.aload_n 0, 1) := by decide +kernel
theorem d_DeltaRows_writePart_28 : decode b_DeltaRows_writePart 28 = .ok (.getfield 13, 3) := by decide +kernel
theorem d_DeltaRows_writePart_31 : decode b_DeltaRows_writePart 31 = .ok (.invokestatic 123, 3) := by decide +kernel
theorem d_DeltaRows_writePart_34 : decode b_DeltaRows_writePart 34 = .ok (.istore 6, 2) := by decide +kernel
theorem d_DeltaRows_writePart_36 : decode b_DeltaRows_writePart 36 = .ok (.iload_n 1, 1) := by decide +kernel
theorem d_DeltaRows_writePart_37 : decode b_DeltaRows_writePart 37 = .ok (.iload_n 2, 1) := by decide +kernel
theorem d_DeltaRows_writePart_38 : decode b_DeltaRows_writePart 38 = .ok (.iconst 1, 1) := by decide +kernel
theorem d_DeltaRows_writePart_39 : decode b_DeltaRows_writePart 39 = .ok (.iadd, 1) := by decide +kernel
theorem d_DeltaRows_writePart_40 : decode b_DeltaRows_writePart 40 = .ok (.aload_n 0, 1) := by decide +kernel
theorem d_DeltaRows_writePart_41 : decode b_DeltaRows_writePart 41 = .ok (.getfield 13, 3) := by decide +kernel
theorem d_DeltaRows_writePart_44 : decode b_DeltaRows_writePart 44 = .ok (.invokestatic 123, 3) := by decide +kernel
theorem d_DeltaRows_writePart_47 : decode b_DeltaRows_writePart 47 = .ok (.istore 7, 2) := by decide +kernel
theorem d_DeltaRows_writePart_49 : decode b_DeltaRows_writePart 49 = .ok (.aload_n 0, 1) := by decide +kernel
theorem d_DeltaRows_writePart_50 : decode b_DeltaRows_writePart 50 = .ok (.getfield 20, 3) := by decide +kernel
theorem d_DeltaRows_writePart_53 : decode b_DeltaRows_writePart 53 = .ok (.getfield 65, 3) := by decide +kernel
theorem d_DeltaRows_writePart_56 : decode b_DeltaRows_writePart 56 = .ok (.bipush 8, 2) := by decide +kernel
theorem d_DeltaRows_writePart_58 : decode b_DeltaRows_writePart 58 = .ok (.imul, 1) := by decide +kernel
theorem d_DeltaRows_writePart_59 : decode b_DeltaRows_writePart 59 = .ok (.istore 8, 2) := by decide +kernel
theorem d_DeltaRows_writePart_61 : decode b_DeltaRows_writePart 61 = .ok (.iload 6, 2) := by decide +kernel
theorem d_DeltaRows_writePart_63 : decode b_DeltaRows_writePart 63 = .ok (.istore 9, 2) := by decide +kernel
theorem d_DeltaRows_writePart_65 : decode b_DeltaRows_writePart 65 = .ok (.iload 9, 2) := by decide +kernel
theorem d_DeltaRows_writePart_67 : decode b_DeltaRows_writePart 67 = .ok (.iload 6, 2) := by decide +kernel
theorem d_DeltaRows_writePart_69 : decode b_DeltaRows_writePart 69 = .ok (.bipush 16, 2) := by decide +kernel
theorem d_DeltaRows_writePart_71 : decode b_DeltaRows_writePart 71 = .ok (.iadd, 1) := by decide +kernel
theorem d_DeltaRows_writePart_72 : decode b_DeltaRows_writePart 72 = .ok (.if_icmp .ge 57, 3) := by decide +kernel
theorem d_DeltaRows_writePart_75 : decode b_DeltaRows_writePart 75 = .ok (.aload_n 0, 1) := by decide +kernel
theorem d_DeltaRows_writePart_76 : decode b_DeltaRows_writePart 76 = .ok (.getfield 20, 3) := by decide +kernel
theorem d_DeltaRows_writePart_79 : decode b_DeltaRows_writePart 79 = .ok (.iload 8, 2) := by decide +kernel
theorem d_DeltaRows_writePart_81 : decode b_DeltaRows_writePart 81 = .ok (.iload 5, 2) := by decide +kernel
theorem d_DeltaRows_writePart_83 : decode b_DeltaRows_writePart 83 = .ok (.iload 9, 2) := by decide +kernel
theorem d_DeltaRows_writePart_85 : decode b_DeltaRows_writePart 85 = .ok (.iload 7, 2) := by decide +kernel
theorem d_DeltaRows_writePart_87 : decode b_DeltaRows_writePart 87 = .ok (.if_icmp .ge 25, 3) := by decide +kernel
theorem d_DeltaRows_writePart_90 : decode b_DeltaRows_writePart 90 = .ok (.aload_n 0, 1) := by decide +kernel
theorem d_DeltaRows_writePart_91 : decode b_DeltaRows_writePart 91 = .ok (.getfield 9, 3) := by decide +kernel
theorem d_DeltaRows_writePart_94 : decode b_DeltaRows_writePart 94 = .ok (.iload 9, 2) := by decide +kernel
theorem d_DeltaRows_writePart_96 : decode b_DeltaRows_writePart 96 = .ok (.laload, 1) := by decide +kernel
theorem d_DeltaRows_writePart_97 : decode b_DeltaRows_writePart 97 = .ok (.aload_n 0, 1) := by decide +kernel
theorem d_DeltaRows_writePart_98 : decode b_DeltaRows_writePart 98 = .ok (.getfield 9, 3) := by decide +kernel
theorem d_DeltaRows_writePart_101 : decode b_DeltaRows_writePart 101 = .ok (.iload 9, 2) := by decide +kernel
theorem d_DeltaRows_writePart_103 : decode b_DeltaRows_writePart 103 = .ok (.iconst 1, 1) := by decide +kernel
theorem d_DeltaRows_writePart_104 : decode b_DeltaRows_writePart 104 = .ok (.isub, 1) := by decide +kernel
theorem d_DeltaRows_writePart_105 : decode b_DeltaRows_writePart 105 = .ok (.laload, 1) := by decide +kernel
theorem d_DeltaRows_writePart_106 : decode b_DeltaRows_writePart 106 = .ok (.lsub, 1) := by decide +kernel
theorem d_DeltaRows_writePart_107 : decode b_DeltaRows_writePart 107 = .ok (.lload_n 3, 1) := by decide +kernel
theorem d_DeltaRows_writePart_108 : decode b_DeltaRows_writePart 108 = .ok (.lsub, 1) := by decide +kernel
theorem d_DeltaRows_writePart_109 : decode b_DeltaRows_writePart 109 = .ok (.goto 4, 3) := by decide +kernel
theorem d_DeltaRows_writePart_112 : decode b_DeltaRows_writePart 112 = .ok (.lconst 0, 1) := by decide +kernel
theorem d_DeltaRows_writePart_113 : decode b_DeltaRows_writePart 113 = .ok (.invokevirtual 139, 3) := by decide +kernel
theorem d_DeltaRows_writePart_116 : decode b_DeltaRows_writePart 116 = .ok (.iload 8, 2) := by decide +kernel
theorem d_DeltaRows_writePart_118 : decode b_DeltaRows_writePart 118 = .ok (.iload 5, 2) := by decide +kernel
theorem d_DeltaRows_writePart_120 : decode b_DeltaRows_writePart 120 = .ok (.iadd, 1) := by decide +kernel
theorem d_DeltaRows_writePart_121 : decode b_DeltaRows_writePart 121 = .ok (.istore 8, 2) := by decide +kernel
theorem d_DeltaRows_writePart_123 : decode b_DeltaRows_writePart 123 = .ok (.iinc 9 1, 3) := by decide +kernel
theorem d_DeltaRows_writePart_126 : decode b_DeltaRows_writePart 126 = .ok (.goto (-61), 3) := by decide +kernel
theorem d_DeltaRows_writePart_129 : decode b_DeltaRows_writePart 129 = .ok (.aload_n 0, 1) := by decide +kernel
theorem d_DeltaRows_writePart_130 : decode b_DeltaRows_writePart 130 = .ok (.getfield 20, 3) := by decide +kernel
theorem d_DeltaRows_writePart_133 : decode b_DeltaRows_writePart 133 = .ok (.dup, 1) := by decide +kernel
theorem d_DeltaRows_writePart_134 : decode b_DeltaRows_writePart 134 = .ok (.getfield 65, 3) := by decide +kernel
theorem d_DeltaRows_writePart_137 : decode b_DeltaRows_writePart 137 = .ok (.iload 5, 2) := by decide +kernel
theorem d_DeltaRows_writePart_139 : decode b_DeltaRows_writePart 139 = .ok (.invokestatic 143, 3) := by decide +kernel
theorem d_DeltaRows_writePart_142 : decode b_DeltaRows_writePart 142 = .ok (.iadd, 1) := by decide +kernel
theorem d_DeltaRows_writePart_143 : decode b_DeltaRows_writePart 143 = .ok (.putfield 65, 3) := by decide +kernel
theorem d_DeltaRows_writePart_146 : decode b_DeltaRows_writePart 146 = .ok (.return_, 1) := by decide +kernel
theorem d_DeltaRows_takeRow_0 : decode b_DeltaRows_takeRow 0 = .ok (.aload_n 0, 1) := by decide +kernel
theorem d_DeltaRows_takeRow_1 : decode b_DeltaRows_takeRow 1 = .ok (.aload_n 0, 1) := by decide +kernel
theorem d_DeltaRows_takeRow_2 : decode b_DeltaRows_takeRow 2 = .ok (.getfield 29, 3) := by decide +kernel
theorem d_DeltaRows_takeRow_5 : decode b_DeltaRows_takeRow 5 = .ok (.getfield 146, 3) := by decide +kernel
theorem d_DeltaRows_takeRow_8 : decode b_DeltaRows_takeRow 8 = .ok (.putfield 13, 3) := by decide +kernel
theorem d_DeltaRows_takeRow_11 : decode b_DeltaRows_takeRow 11 = .ok (.aload_n 0, 1) := by decide +kernel
theorem d_DeltaRows_takeRow_12 : decode b_DeltaRows_takeRow 12 = .ok (.getfield 13, 3) := by decide +kernel
theorem d_DeltaRows_takeRow_15 : decode b_DeltaRows_takeRow 15 = .ok (.ifCond .le 16, 3) := by decide +kernel
theorem d_DeltaRows_takeRow_18 : decode b_DeltaRows_takeRow 18 = .ok (.aload_n 0, 1) := by decide +kernel
