theorem d_Scan_passPart_81 : decode b_Scan_passPart 81 = .ok (.dup, 1) := by decide +kernel
theorem d_Scan_passPart_82 : decode b_Scan_passPart 82 = .ok (.getfield 15, 3) := by decide +kernel
theorem d_Scan_passPart_85 : decode b_Scan_passPart 85 = .ok (.iload_n 1, 1) := by decide +kernel
theorem d_Scan_passPart_86 : decode b_Scan_passPart 86 = .ok (.invokestatic 100, 3) := by decide +kernel
theorem d_Scan_passPart_89 : decode b_Scan_passPart 89 = .ok (.iadd, 1) := by decide +kernel
theorem d_Scan_passPart_90 : decode b_Scan_passPart 90 = .ok (.putfield 15, 3) := by decide +kernel
theorem d_Scan_passPart_93 : decode b_Scan_passPart 93 = .ok (.return_, 1) := by decide +kernel
theorem d_Scan_nextVarint_0 : decode b_Scan_nextVarint 0 = .ok (.aload_n 0, 1) := by decide +kernel
theorem d_Scan_nextVarint_1 : decode b_Scan_nextVarint 1 = .ok (.getfield 15, 3) := by decide +kernel
theorem d_Scan_nextVarint_4 : decode b_Scan_nextVarint 4 = .ok (.istore_n 1, 1) := by decide +kernel
theorem d_Scan_nextVarint_5 : decode b_Scan_nextVarint 5 = .ok (.lconst 0, 1) := by decide +kernel
theorem d_Scan_nextVarint_6 : decode b_Scan_nextVarint 6 = .ok (.lstore_n 2, 1) := by decide +kernel
theorem d_Scan_nextVarint_7 : decode b_Scan_nextVarint 7 = .ok (.iconst 0, 1) := by decide +kernel
theorem d_Scan_nextVarint_8 : decode b_Scan_nextVarint 8 = .ok (.istore 4, 2) := by decide +kernel
theorem d_Scan_nextVarint_10 : decode b_Scan_nextVarint 10 = .ok (.iload 4, 2) := by decide +kernel
theorem d_Scan_nextVarint_12 : decode b_Scan_nextVarint 12 = .ok (.bipush 10, 2) := by decide +kernel
theorem d_Scan_nextVarint_14 : decode b_Scan_nextVarint 14 = .ok (.if_icmp .ge 100, 3) := by decide +kernel
theorem d_Scan_nextVarint_17 : decode b_Scan_nextVarint 17 = .ok (.aload_n 0, 1) := by decide +kernel
theorem d_Scan_nextVarint_18 : decode b_Scan_nextVarint 18 = .ok (.invokevirtual 96, 3) := by decide +kernel
theorem d_Scan_nextVarint_21 : decode b_Scan_nextVarint 21 = .ok (.istore 5, 2) := by decide +kernel
theorem d_Scan_nextVarint_23 : decode b_Scan_nextVarint 23 = .ok (.aload_n 0, 1) := by decide +kernel
theorem d_Scan_nextVarint_24 : decode b_Scan_nextVarint 24 = .ok (.invokevirtual 44, 3) := by decide +kernel
theorem d_Scan_nextVarint_27 : decode b_Scan_nextVarint 27 = .ok (.ifCond .ne 5, 3) := by decide +kernel
theorem d_Scan_nextVarint_30 : decode b_Scan_nextVarint 30 = .ok (.lconst 0, 1) := by decide +kernel
theorem d_Scan_nextVarint_31 : decode b_Scan_nextVarint 31 = .ok (.lreturn, 1) := by decide +kernel
theorem d_Scan_nextVarint_32 : decode b_Scan_nextVarint 32 = .ok (.iload 4, 2) := by decide +kernel
theorem d_Scan_nextVarint_34 : decode b_Scan_nextVarint 34 = .ok (.bipush 9, 2) := by decide +kernel
theorem d_Scan_nextVarint_36 : decode b_Scan_nextVarint 36 = .ok (.if_icmp .ne 13, 3) := by decide +kernel
theorem d_Scan_nextVarint_39 : decode b_Scan_nextVarint 39 = .ok (.iload 5, 2) := by decide +kernel
theorem d_Scan_nextVarint_41 : decode b_Scan_nextVarint 41 = .ok (.iconst 1, 1) := by decide +kernel
theorem d_Scan_nextVarint_42 : decode b_Scan_nextVarint 42 = .ok (.if_icmp .le 7, 3) := by decide +kernel
theorem d_Scan_nextVarint_45 : decode b_Scan_nextVarint 45 = .ok (.iconst 1, 1) := by decide +kernel
theorem d_Scan_nextVarint_46 : decode b_Scan_nextVarint 46 = .ok (.goto 4, 3) := by decide +kernel
theorem d_Scan_nextVarint_49 : decode b_Scan_nextVarint 49 = .ok (.iconst 0, 1) := by decide +kernel
theorem d_Scan_nextVarint_50 : decode b_Scan_nextVarint 50 = .ok (.istore 6, 2) := by decide +kernel
theorem d_Scan_nextVarint_52 : decode b_Scan_nextVarint 52 = .ok (.iload 4, 2) := by decide +kernel
theorem d_Scan_nextVarint_54 : decode b_Scan_nextVarint 54 = .ok (.ifCond .le 12, 3) := by decide +kernel
theorem d_Scan_nextVarint_57 : decode b_Scan_nextVarint 57 = .ok (.iload 5, 2) := by decide +kernel
theorem d_Scan_nextVarint_59 : decode b_Scan_nextVarint 59 = .ok (.ifCond .ne 7, 3) := by decide +kernel
theorem d_Scan_nextVarint_62 : decode b_Scan_nextVarint 62 = .ok (.iconst 1, 1) := by decide +kernel
theorem d_Scan_nextVarint_63 : decode b_Scan_nextVarint 63 = .ok (.goto 4, 3) := by decide +kernel
theorem d_Scan_nextVarint_66 : decode b_Scan_nextVarint 66 = .ok (.iconst 0, 1) := by decide +kernel
theorem d_Scan_nextVarint_67 : decode b_Scan_nextVarint 67 = .ok (.istore 7, 2) := by decide +kernel
theorem d_Scan_nextVarint_69 : decode b_Scan_nextVarint 69 = .ok (.iload 6, 2) := by decide +kernel
theorem d_Scan_nextVarint_71 : decode b_Scan_nextVarint 71 = .ok (.ifCond .ne 43, 3) := by decide +kernel
theorem d_Scan_nextVarint_74 : decode b_Scan_nextVarint 74 = .ok (.iload 7, 2) := by decide +kernel
theorem d_Scan_nextVarint_76 : decode b_Scan_nextVarint 76 = .ok (.ifCond .eq 6, 3) := by decide +kernel
theorem d_Scan_nextVarint_79 : decode b_Scan_nextVarint 79 = .ok (.goto 35, 3) := by decide +kernel
theorem d_Scan_nextVarint_82 : decode b_Scan_nextVarint 82 = .ok (.lload_n 2, 1) := by decide +kernel
theorem d_Scan_nextVarint_83 : decode b_Scan_nextVarint 83 = .ok (.iload 5, 2) := by decide +kernel
theorem d_Scan_nextVarint_85 : decode b_Scan_nextVarint 85 = .ok (.i2l, 1) := by decide +kernel
theorem d_Scan_nextVarint_86 : decode b_Scan_nextVarint 86 = .ok (.ldc2_w 107, 3) := by decide +kernel
theorem d_Scan_nextVarint_89 : decode b_Scan_nextVarint 89 = .ok (.land, 1) := by decide +kernel
theorem d_Scan_nextVarint_90 : decode b_Scan_nextVarint 90 = .ok (.bipush 7, 2) := by decide +kernel
theorem d_Scan_nextVarint_92 : decode b_Scan_nextVarint 92 = .ok (.iload 4, 2) := by decide +kernel
theorem d_Scan_nextVarint_94 : decode b_Scan_nextVarint 94 = .ok (.imul, 1) := by decide +kernel
theorem d_Scan_nextVarint_95 : decode b_Scan_nextVarint 95 = .ok (.lshl, 1) := by decide +kernel
theorem d_Scan_nextVarint_96 : decode b_Scan_nextVarint 96 = .ok (.lor, 1) := by decide +kernel
theorem d_Scan_nextVarint_97 : decode b_Scan_nextVarint 97 = .ok (.lstore_n 2, 1) := by decide +kernel
theorem d_Scan_nextVarint_98 : decode b_Scan_nextVarint 98 = .ok (.iload 5, 2) := by decide +kernel
theorem d_Scan_nextVarint_100 : decode b_Scan_nextVarint 100 = .ok (.sipush 128, 3) := by decide +kernel
theorem d_Scan_nextVarint_103 : decode b_Scan_nextVarint 103 = .ok (.if_icmp .ge 5, 3) := by decide +kernel
theorem d_Scan_nextVarint_106 : decode b_Scan_nextVarint 106 = .ok (.lload_n 2, 1) := by decide +kernel
theorem d_Scan_nextVarint_107 : decode b_Scan_nextVarint 107 = .ok (.lreturn, 1) := by decide +kernel
theorem d_Scan_nextVarint_108 : decode b_Scan_nextVarint 108 = .ok (.iinc 4 1, 3) := by decide +kernel
theorem d_Scan_nextVarint_111 : decode b_Scan_nextVarint 111 = .ok (.goto (-101), 3) := by decide +kernel
theorem d_Scan_nextVarint_114 : decode b_Scan_nextVarint 114 = .ok (.aload_n 0, 1) := by decide +kernel
theorem d_Scan_nextVarint_115 : decode b_Scan_nextVarint 115 = .ok (.iconst 2, 1) := by decide +kernel
theorem d_Scan_nextVarint_116 : decode b_Scan_nextVarint 116 = .ok (.iload_n 1, 1) := by decide +kernel
theorem d_Scan_nextVarint_117 : decode b_Scan_nextVarint 117 = .ok (.invokevirtual 57, 3) := by decide +kernel
theorem d_Scan_nextVarint_120 : decode b_Scan_nextVarint 120 = .ok (.lconst 0, 1) := by decide +kernel
theorem d_Scan_nextVarint_121 : decode b_Scan_nextVarint 121 = .ok (.lreturn, 1) := by decide +kernel
theorem d_Scan_nextByte_0 : decode b_Scan_nextByte 0 = .ok (.aload_n 0, 1) := by decide +kernel
theorem d_Scan_nextByte_1 : decode b_Scan_nextByte 1 = .ok (.getfield 9, 3) := by decide +kernel
theorem d_Scan_nextByte_4 : decode b_Scan_nextByte 4 = .ok (.aload_n 0, 1) := by decide +kernel
theorem d_Scan_nextByte_5 : decode b_Scan_nextByte 5 = .ok (.getfield 15, 3) := by decide +kernel
theorem d_Scan_nextByte_8 : decode b_Scan_nextByte 8 = .ok (.invokevirtual 109, 3) := by decide +kernel
theorem d_Scan_nextByte_11 : decode b_Scan_nextByte 11 = .ok (.ifCond .ne 17, 3) := by decide +kernel
theorem d_Scan_nextByte_14 : decode b_Scan_nextByte 14 = .ok (.aload_n 0, 1) := by decide +kernel
theorem d_Scan_nextByte_15 : decode b_Scan_nextByte 15 = .ok (.iconst 1, 1) := by decide +kernel
theorem d_Scan_nextByte_16 : decode b_Scan_nextByte 16 = .ok (.aload_n 0, 1) := by decide +kernel
theorem d_Scan_nextByte_17 : decode b_Scan_nextByte 17 = .ok (.getfield 9, 3) := by decide +kernel
theorem d_Scan_nextByte_20 : decode b_Scan_nextByte 20 = .ok (.getfield 52, 3) := by decide +kernel
theorem d_Scan_nextByte_23 : decode b_Scan_nextByte 23 = .ok (.invokevirtual 57, 3) := by decide +kernel
theorem d_Scan_nextByte_26 : decode b_Scan_nextByte 26 = .ok (.iconst 0, 1) := by decide +kernel
theorem d_Scan_nextByte_27 : decode b_Scan_nextByte 27 = .ok (.ireturn, 1) := by decide +kernel
theorem d_Scan_nextByte_28 : decode b_Scan_nextByte 28 = .ok (.aload_n 0, 1) := by decide +kernel
theorem d_Scan_nextByte_29 : decode b_Scan_nextByte 29 = .ok (.getfield 9, 3) := by decide +kernel
theorem d_Scan_nextByte_32 : decode b_Scan_nextByte 32 = .ok (.aload_n 0, 1) := by decide +kernel
theorem d_Scan_nextByte_33 : decode b_Scan_nextByte 33 = .ok (.getfield 15, 3) := by decide +kernel
theorem d_Scan_nextByte_36 : decode b_Scan_nextByte 36 = .ok (.invokevirtual 113, 3) := by decide +kernel
theorem d_Scan_nextByte_39 : decode b_Scan_nextByte 39 = .ok (.istore_n 1, 1) := by decide +kernel
theorem d_Scan_nextByte_40 : decode b_Scan_nextByte 40 = .ok (.aload_n 0, 1) := by decide +kernel
theorem d_Scan_nextByte_41 : decode b_Scan_nextByte 41 = .ok (.dup, 1) := by decide +kernel
theorem d_Scan_nextByte_42 : decode b_Scan_nextByte 42 = .ok (.getfield 15, 3) := by decide +kernel
theorem d_Scan_nextByte_45 : decode b_Scan_nextByte 45 = .ok (.iconst 1, 1) := by decide +kernel
theorem d_Scan_nextByte_46 : decode b_Scan_nextByte 46 = .ok (.iadd, 1) := by decide +kernel
theorem d_Scan_nextByte_47 : decode b_Scan_nextByte 47 = .ok (.putfield 15, 3) := by decide +kernel
theorem d_Scan_nextByte_50 : decode b_Scan_nextByte 50 = .ok (.iload_n 1, 1) := by decide +kernel
theorem d_Scan_nextByte_51 : decode b_Scan_nextByte 51 = .ok (.ireturn, 1) := by decide +kernel
theorem d_Scan_isFaultless_0 : decode b_Scan_isFaultless 0 = .ok (.aload_n 0, 1) := by decide +kernel
theorem d_Scan_isFaultless_1 : decode b_Scan_isFaultless 1 = .ok (.getfield 19, 3) := by decide +kernel
theorem d_Scan_isFaultless_4 : decode b_Scan_isFaultless 4 = .ok (.ifCond .ne 7, 3) := by decide +kernel
theorem d_Scan_isFaultless_7 : decode b_Scan_isFaultless 7 = .ok (.iconst 1, 1) := by decide +kernel
theorem d_Scan_isFaultless_8 : decode b_Scan_isFaultless 8 = .ok (.goto 4, 3) := by decide +kernel
theorem d_Scan_isFaultless_11 : decode b_Scan_isFaultless 11 = .ok (.iconst 0, 1) := by decide +kernel
theorem d_Scan_isFaultless_12 : decode b_Scan_isFaultless 12 = .ok (.ireturn, 1) := by decide +kernel
theorem d_Scan_refuse_0 : decode b_Scan_refuse 0 = .ok (.aload_n 0, 1) := by decide +kernel
theorem d_Scan_refuse_1 : decode b_Scan_refuse 1 = .ok (.iload_n 1, 1) := by decide +kernel
theorem d_Scan_refuse_2 : decode b_Scan_refuse 2 = .ok (.putfield 19, 3) := by decide +kernel
theorem d_Scan_refuse_5 : decode b_Scan_refuse 5 = .ok (.aload_n 0, 1) := by decide +kernel
theorem d_Scan_refuse_6 : decode b_Scan_refuse 6 = .ok (.iload_n 2, 1) := by decide +kernel
theorem d_Scan_refuse_7 : decode b_Scan_refuse 7 = .ok (.putfield 22, 3) := by decide +kernel
theorem d_Scan_refuse_10 : decode b_Scan_refuse 10 = .ok (.return_, 1) := by decide +kernel
