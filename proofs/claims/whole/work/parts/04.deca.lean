theorem d_ByteRow_init_0 : decode b_ByteRow_init 0 = .ok (.aload_n 0, 1) := by decide +kernel
theorem d_ByteRow_init_1 : decode b_ByteRow_init 1 = .ok (.invokespecial 3, 3) := by decide +kernel
theorem d_ByteRow_init_4 : decode b_ByteRow_init 4 = .ok (.aload_n 0, 1) := by decide +kernel
theorem d_ByteRow_init_5 : decode b_ByteRow_init 5 = .ok (.sipush 2500, 3) := by decide +kernel
theorem d_ByteRow_init_8 : decode b_ByteRow_init 8 = .ok (.newarray .long, 2) := by decide +kernel
theorem d_ByteRow_init_10 : decode b_ByteRow_init 10 = .ok (.putfield 9, 3) := by decide +kernel
theorem d_ByteRow_init_13 : decode b_ByteRow_init 13 = .ok (.aload_n 0, 1) := by decide +kernel
theorem d_ByteRow_init_14 : decode b_ByteRow_init 14 = .ok (.iconst 0, 1) := by decide +kernel
theorem d_ByteRow_init_15 : decode b_ByteRow_init 15 = .ok (.putfield 15, 3) := by decide +kernel
theorem d_ByteRow_init_18 : decode b_ByteRow_init 18 = .ok (.return_, 1) := by decide +kernel
theorem d_ByteRow_has_0 : decode b_ByteRow_has 0 = .ok (.iload_n 1, 1) := by decide +kernel
theorem d_ByteRow_has_1 : decode b_ByteRow_has 1 = .ok (.ifCond .lt 15, 3) := by decide +kernel
theorem d_ByteRow_has_4 : decode b_ByteRow_has 4 = .ok (.iload_n 1, 1) := by decide +kernel
theorem d_ByteRow_has_5 : decode b_ByteRow_has 5 = .ok (.aload_n 0, 1) := by decide +kernel
theorem d_ByteRow_has_6 : decode b_ByteRow_has 6 = .ok (.getfield 15, 3) := by decide +kernel
theorem d_ByteRow_has_9 : decode b_ByteRow_has 9 = .ok (.if_icmp .ge 7, 3) := by decide +kernel
theorem d_ByteRow_has_12 : decode b_ByteRow_has 12 = .ok (.iconst 1, 1) := by decide +kernel
theorem d_ByteRow_has_13 : decode b_ByteRow_has 13 = .ok (.goto 4, 3) := by decide +kernel
theorem d_ByteRow_has_16 : decode b_ByteRow_has 16 = .ok (.iconst 0, 1) := by decide +kernel
theorem d_ByteRow_has_17 : decode b_ByteRow_has 17 = .ok (.ireturn, 1) := by decide +kernel
theorem d_ByteRow_byteIn_0 : decode b_ByteRow_byteIn 0 = .ok (.aload_n 0, 1) := by decide +kernel
theorem d_ByteRow_byteIn_1 : decode b_ByteRow_byteIn 1 = .ok (.iload_n 1, 1) := by decide +kernel
theorem d_ByteRow_byteIn_2 : decode b_ByteRow_byteIn 2 = .ok (.bipush 8, 2) := by decide +kernel
theorem d_ByteRow_byteIn_4 : decode b_ByteRow_byteIn 4 = .ok (.imul, 1) := by decide +kernel
theorem d_ByteRow_byteIn_5 : decode b_ByteRow_byteIn 5 = .ok (.bipush 8, 2) := by decide +kernel
theorem d_ByteRow_byteIn_7 : decode b_ByteRow_byteIn 7 = .ok (.invokevirtual 19, 3) := by decide +kernel
theorem d_ByteRow_byteIn_10 : decode b_ByteRow_byteIn 10 = .ok (.l2i, 1) := by decide +kernel
theorem d_ByteRow_byteIn_11 : decode b_ByteRow_byteIn 11 = .ok (.ireturn, 1) := by decide +kernel
theorem d_ByteRow_change_0 : decode b_ByteRow_change 0 = .ok (.aload_n 0, 1) := by decide +kernel
theorem d_ByteRow_change_1 : decode b_ByteRow_change 1 = .ok (.iload_n 1, 1) := by decide +kernel
theorem d_ByteRow_change_2 : decode b_ByteRow_change 2 = .ok (.bipush 8, 2) := by decide +kernel
theorem d_ByteRow_change_4 : decode b_ByteRow_change 4 = .ok (.imul, 1) := by decide +kernel
theorem d_ByteRow_change_5 : decode b_ByteRow_change 5 = .ok (.bipush 8, 2) := by decide +kernel
theorem d_ByteRow_change_7 : decode b_ByteRow_change 7 = .ok (.iload_n 2, 1) := by decide +kernel
theorem d_ByteRow_change_8 : decode b_ByteRow_change 8 = .ok (.i2l, 1) := by decide +kernel
theorem d_ByteRow_change_9 : decode b_ByteRow_change 9 = .ok (.invokevirtual 23, 3) := by decide +kernel
theorem d_ByteRow_change_12 : decode b_ByteRow_change 12 = .ok (.return_, 1) := by decide +kernel
theorem d_ByteRow_add_0 : decode b_ByteRow_add 0 = .ok (.aload_n 0, 1) := by decide +kernel
theorem d_ByteRow_add_1 : decode b_ByteRow_add 1 = .ok (.getfield 15, 3) := by decide +kernel
theorem d_ByteRow_add_4 : decode b_ByteRow_add 4 = .ok (.sipush 20000, 3) := by decide +kernel
theorem d_ByteRow_add_7 : decode b_ByteRow_add 7 = .ok (.if_icmp .lt 5, 3) := by decide +kernel
theorem d_ByteRow_add_10 : decode b_ByteRow_add 10 = .ok (.iconst 0, 1) := by decide +kernel
theorem d_ByteRow_add_11 : decode b_ByteRow_add 11 = .ok (.ireturn, 1) := by decide +kernel
theorem d_ByteRow_add_12 : decode b_ByteRow_add 12 = .ok (.aload_n 0, 1) := by decide +kernel
theorem d_ByteRow_add_13 : decode b_ByteRow_add 13 = .ok (.aload_n 0, 1) := by decide +kernel
theorem d_ByteRow_add_14 : decode b_ByteRow_add 14 = .ok (.getfield 15, 3) := by decide +kernel
theorem d_ByteRow_add_17 : decode b_ByteRow_add 17 = .ok (.iload_n 1, 1) := by decide +kernel
theorem d_ByteRow_add_18 : decode b_ByteRow_add 18 = .ok (.invokevirtual 27, 3) := by decide +kernel
theorem d_ByteRow_add_21 : decode b_ByteRow_add 21 = .ok (.aload_n 0, 1) := by decide +kernel
theorem d_ByteRow_add_22 : decode b_ByteRow_add 22 = .ok (.dup, 1) := by decide +kernel
theorem d_ByteRow_add_23 : decode b_ByteRow_add 23 = .ok (.getfield 15, 3) := by decide +kernel
theorem d_ByteRow_add_26 : decode b_ByteRow_add 26 = .ok (.iconst 1, 1) := by decide +kernel
theorem d_ByteRow_add_27 : decode b_ByteRow_add 27 = .ok (.iadd, 1) := by decide +kernel
theorem d_ByteRow_add_28 : decode b_ByteRow_add 28 = .ok (.putfield 15, 3) := by decide +kernel
theorem d_ByteRow_add_31 : decode b_ByteRow_add 31 = .ok (.iconst 1, 1) := by decide +kernel
theorem d_ByteRow_add_32 : decode b_ByteRow_add 32 = .ok (.ireturn, 1) := by decide +kernel
theorem d_ByteRow_addVarint_0 : decode b_ByteRow_addVarint 0 = .ok (.lload_n 1, 1) := by decide +kernel
theorem d_ByteRow_addVarint_1 : decode b_ByteRow_addVarint 1 = .ok (.lstore_n 3, 1) := by decide +kernel
theorem d_ByteRow_addVarint_2 : decode b_ByteRow_addVarint 2 = .ok (.iconst 1, 1) := by decide +kernel
theorem d_ByteRow_addVarint_3 : decode b_ByteRow_addVarint 3 = .ok (.istore 5, 2) := by decide +kernel
theorem d_ByteRow_addVarint_5 : decode b_ByteRow_addVarint 5 = .ok (.iload 5, 2) := by decide +kernel
theorem d_ByteRow_addVarint_7 : decode b_ByteRow_addVarint 7 = .ok (.bipush 10, 2) := by decide +kernel
theorem d_ByteRow_addVarint_9 : decode b_ByteRow_addVarint 9 = .ok (.if_icmp .ge 39, 3) := by decide +kernel
theorem d_ByteRow_addVarint_12 : decode b_ByteRow_addVarint 12 = .ok (.lload_n 3, 1) := by decide +kernel
theorem d_ByteRow_addVarint_13 : decode b_ByteRow_addVarint 13 = .ok (.ldc2_w 31, 3) := by decide +kernel
theorem d_ByteRow_addVarint_16 : decode b_ByteRow_addVarint 16 = .ok (.land, 1) := by decide +kernel
theorem d_ByteRow_addVarint_17 : decode b_ByteRow_addVarint 17 = .ok (.lconst 0, 1) := by decide +kernel
theorem d_ByteRow_addVarint_18 : decode b_ByteRow_addVarint 18 = .ok (.lcmp, 1) := by decide +kernel
theorem d_ByteRow_addVarint_19 : decode b_ByteRow_addVarint 19 = .ok (.ifCond .eq 29, 3) := by decide +kernel
theorem d_ByteRow_addVarint_22 : decode b_ByteRow_addVarint 22 = .ok (.aload_n 0, 1) := by decide +kernel
theorem d_ByteRow_addVarint_23 : decode b_ByteRow_addVarint 23 = .ok (.lload_n 3, 1) := by decide +kernel
theorem d_ByteRow_addVarint_24 : decode b_ByteRow_addVarint 24 = .ok (.ldc2_w 33, 3) := by decide +kernel
theorem d_ByteRow_addVarint_27 : decode b_ByteRow_addVarint 27 = .ok (.land, 1) := by decide +kernel
theorem d_ByteRow_addVarint_28 : decode b_ByteRow_addVarint 28 = .ok (.l2i, 1) := by decide +kernel
theorem d_ByteRow_addVarint_29 : decode b_ByteRow_addVarint 29 = .ok (.sipush 128, 3) := by decide +kernel
theorem d_ByteRow_addVarint_32 : decode b_ByteRow_addVarint 32 = .ok (.ior, 1) := by decide +kernel
theorem d_ByteRow_addVarint_33 : decode b_ByteRow_addVarint 33 = .ok (.invokevirtual 35, 3) := by decide +kernel
theorem d_ByteRow_addVarint_36 : decode b_ByteRow_addVarint 36 = .ok (.pop, 1) := by decide +kernel
theorem d_ByteRow_addVarint_37 : decode b_ByteRow_addVarint 37 = .ok (.lload_n 3, 1) := by decide +kernel
theorem d_ByteRow_addVarint_38 : decode b_ByteRow_addVarint 38 = .ok (.bipush 7, 2) := by decide +kernel
theorem d_ByteRow_addVarint_40 : decode b_ByteRow_addVarint 40 = .ok (.lushr, 1) := by decide +kernel
theorem d_ByteRow_addVarint_41 : decode b_ByteRow_addVarint 41 = .ok (.lstore_n 3, 1) := by decide +kernel
theorem d_ByteRow_addVarint_42 : decode b_ByteRow_addVarint 42 = .ok (.iinc 5 1, 3) := by decide +kernel
theorem d_ByteRow_addVarint_45 : decode b_ByteRow_addVarint 45 = .ok (.goto (-40), 3) := by decide +kernel
theorem d_ByteRow_addVarint_48 : decode b_ByteRow_addVarint 48 = .ok (.aload_n 0, 1) := by decide +kernel
theorem d_ByteRow_addVarint_49 : decode b_ByteRow_addVarint 49 = .ok (.lload_n 3, 1) := by decide +kernel
theorem d_ByteRow_addVarint_50 : decode b_ByteRow_addVarint 50 = .ok (.l2i, 1) := by decide +kernel
theorem d_ByteRow_addVarint_51 : decode b_ByteRow_addVarint 51 = .ok (.invokevirtual 35, 3) := by decide +kernel
theorem d_ByteRow_addVarint_54 : decode b_ByteRow_addVarint 54 = .ok (.pop, 1) := by decide +kernel
theorem d_ByteRow_addVarint_55 : decode b_ByteRow_addVarint 55 = .ok (.return_, 1) := by decide +kernel
theorem d_ByteRow_shorten_0 : decode b_ByteRow_shorten 0 = .ok (.aload_n 0, 1) := by decide +kernel
theorem d_ByteRow_shorten_1 : decode b_ByteRow_shorten 1 = .ok (.iload_n 1, 1) := by decide +kernel
theorem d_ByteRow_shorten_2 : decode b_ByteRow_shorten 2 = .ok (.putfield 15, 3) := by decide +kernel
theorem d_ByteRow_shorten_5 : decode b_ByteRow_shorten 5 = .ok (.return_, 1) := by decide +kernel
theorem d_ByteRow_bitsIn_0 : decode b_ByteRow_bitsIn 0 = .ok (.aload_n 0, 1) := by decide +kernel
theorem d_ByteRow_bitsIn_1 : decode b_ByteRow_bitsIn 1 = .ok (.iload_n 1, 1) := by decide +kernel
theorem d_ByteRow_bitsIn_2 : decode b_ByteRow_bitsIn 2 = .ok (.iload_n 2, 1) := by decide +kernel
theorem d_ByteRow_bitsIn_3 : decode b_ByteRow_bitsIn 3 = .ok (.invokevirtual 39, 3) := by decide +kernel
theorem d_ByteRow_bitsIn_6 : decode b_ByteRow_bitsIn 6 = .ok (.ifCond .ne 5, 3) := by decide +kernel
theorem d_ByteRow_bitsIn_9 : decode b_ByteRow_bitsIn 9 = .ok (.lconst 0, 1) := by decide +kernel
theorem d_ByteRow_bitsIn_10 : decode b_ByteRow_bitsIn 10 = .ok (.lreturn, 1) := by decide +kernel
theorem d_ByteRow_bitsIn_11 : decode b_ByteRow_bitsIn 11 = .ok (.iload_n 1, 1) := by decide +kernel
theorem d_ByteRow_bitsIn_12 : decode b_ByteRow_bitsIn 12 = .ok (.bipush 64, 2) := by decide +kernel
theorem d_ByteRow_bitsIn_14 : decode b_ByteRow_bitsIn 14 = .ok (.idiv, 1) := by decide +kernel
theorem d_ByteRow_bitsIn_15 : decode b_ByteRow_bitsIn 15 = .ok (.istore_n 3, 1) := by decide +kernel
theorem d_ByteRow_bitsIn_16 : decode b_ByteRow_bitsIn 16 = .ok (.iload_n 1, 1) := by decide +kernel
theorem d_ByteRow_bitsIn_17 : decode b_ByteRow_bitsIn 17 = .ok (.bipush 64, 2) := by decide +kernel
theorem d_ByteRow_bitsIn_19 : decode b_ByteRow_bitsIn 19 = .ok (.irem, 1) := by decide +kernel
theorem d_ByteRow_bitsIn_20 : decode b_ByteRow_bitsIn 20 = .ok (.istore 4, 2) := by decide +kernel
theorem d_ByteRow_bitsIn_22 : decode b_ByteRow_bitsIn 22 = .ok (.aload_n 0, 1) := by decide +kernel
theorem d_ByteRow_bitsIn_23 : decode b_ByteRow_bitsIn 23 = .ok (.getfield 9, 3) := by decide +kernel
theorem d_ByteRow_bitsIn_26 : decode b_ByteRow_bitsIn 26 = .ok (.iload_n 3, 1) := by decide +kernel
theorem d_ByteRow_bitsIn_27 : decode b_ByteRow_bitsIn 27 = .ok (.laload, 1) := by decide +kernel
theorem d_ByteRow_bitsIn_28 : decode b_ByteRow_bitsIn 28 = .ok (.iload 4, 2) := by decide +kernel
theorem d_ByteRow_bitsIn_30 : decode b_ByteRow_bitsIn 30 = .ok (.lushr, 1) := by decide +kernel
theorem d_ByteRow_bitsIn_31 : decode b_ByteRow_bitsIn 31 = .ok (.lstore 5, 2) := by decide +kernel
theorem d_ByteRow_bitsIn_33 : decode b_ByteRow_bitsIn 33 = .ok (.iload 4, 2) := by decide +kernel
theorem d_ByteRow_bitsIn_35 : decode b_ByteRow_bitsIn 35 = .ok (.iload_n 2, 1) := by decide +kernel
theorem d_ByteRow_bitsIn_36 : decode b_ByteRow_bitsIn 36 = .ok (.iadd, 1) := by decide +kernel
theorem d_ByteRow_bitsIn_37 : decode b_ByteRow_bitsIn 37 = .ok (.bipush 64, 2) := by decide +kernel
theorem d_ByteRow_bitsIn_39 : decode b_ByteRow_bitsIn 39 = .ok (.if_icmp .le 22, 3) := by decide +kernel
theorem d_ByteRow_bitsIn_42 : decode b_ByteRow_bitsIn 42 = .ok (.lload 5, 2) := by decide +kernel
theorem d_ByteRow_bitsIn_44 : decode b_ByteRow_bitsIn 44 = .ok (.aload_n 0, 1) := by decide +kernel
theorem d_ByteRow_bitsIn_45 : decode b_ByteRow_bitsIn 45 = .ok (.getfield 9, 3) := by decide +kernel
theorem d_ByteRow_bitsIn_48 : decode b_ByteRow_bitsIn 48 = .ok (.iload_n 3, 1) := by decide +kernel
theorem d_ByteRow_bitsIn_49 : decode b_ByteRow_bitsIn 49 = .ok (.iconst 1, 1) := by decide +kernel
theorem d_ByteRow_bitsIn_50 : decode b_ByteRow_bitsIn 50 = .ok (.iadd, 1) := by decide +kernel
theorem d_ByteRow_bitsIn_51 : decode b_ByteRow_bitsIn 51 = .ok (.laload, 1) := by decide +kernel
theorem d_ByteRow_bitsIn_52 : decode b_ByteRow_bitsIn 52 = .ok (.bipush 64, 2) := by decide +kernel
theorem d_ByteRow_bitsIn_54 : decode b_ByteRow_bitsIn 54 = .ok (.iload 4, 2) := by decide +kernel
theorem d_ByteRow_bitsIn_56 : decode b_ByteRow_bitsIn 56 = .ok (.isub, 1) := by decide +kernel
theorem d_ByteRow_bitsIn_57 : decode b_ByteRow_bitsIn 57 = .ok (.lshl, 1) := by decide +kernel
theorem d_ByteRow_bitsIn_58 : decode b_ByteRow_bitsIn 58 = .ok (.lor, 1) := by decide +kernel
theorem d_ByteRow_bitsIn_59 : decode b_ByteRow_bitsIn 59 = .ok (.lstore 5, 2) := by decide +kernel
theorem d_ByteRow_bitsIn_61 : decode b_ByteRow_bitsIn 61 = .ok (.lload 5, 2) := by decide +kernel
theorem d_ByteRow_bitsIn_63 : decode b_ByteRow_bitsIn 63 = .ok (.iload_n 2, 1) := by decide +kernel
theorem d_ByteRow_bitsIn_64 : decode b_ByteRow_bitsIn 64 = .ok (.invokestatic 43, 3) := by decide +kernel
theorem d_ByteRow_bitsIn_67 : decode b_ByteRow_bitsIn 67 = .ok (.land, 1) := by decide +kernel
theorem d_ByteRow_bitsIn_68 : decode b_ByteRow_bitsIn 68 = .ok (.lreturn, 1) := by decide +kernel
theorem d_ByteRow_setBits_0 : decode b_ByteRow_setBits 0 = .ok (.aload_n 0, 1) := by decide +kernel
theorem d_ByteRow_setBits_1 : decode b_ByteRow_setBits 1 = .ok (.iload_n 1, 1) := by decide +kernel
theorem d_ByteRow_setBits_2 : decode b_ByteRow_setBits 2 = .ok (.iload_n 2, 1) := by decide +kernel
theorem d_ByteRow_setBits_3 : decode b_ByteRow_setBits 3 = .ok (.invokevirtual 39, 3) := by decide +kernel
theorem d_ByteRow_setBits_6 : decode b_ByteRow_setBits 6 = .ok (.ifCond .ne 4, 3) := by decide +kernel
theorem d_ByteRow_setBits_9 : decode b_ByteRow_setBits 9 = .ok (.return_, 1) := by decide +kernel
theorem d_ByteRow_setBits_10 : decode b_ByteRow_setBits 10 = .ok (.iload_n 1, 1) := by decide +kernel
theorem d_ByteRow_setBits_11 : decode b_ByteRow_setBits 11 = .ok (.bipush 64, 2) := by decide +kernel
theorem d_ByteRow_setBits_13 : decode b_ByteRow_setBits 13 = .ok (.idiv, 1) := by decide +kernel
theorem d_ByteRow_setBits_14 : decode b_ByteRow_setBits 14 = .ok (.istore 5, 2) := by decide +kernel
theorem d_ByteRow_setBits_16 : decode b_ByteRow_setBits 16 = .ok (.iload_n 1, 1) := by decide +kernel
theorem d_ByteRow_setBits_17 : decode b_ByteRow_setBits 17 = .ok (.bipush 64, 2) := by decide +kernel
theorem d_ByteRow_setBits_19 : decode b_ByteRow_setBits 19 = .ok (.irem, 1) := by decide +kernel
theorem d_ByteRow_setBits_20 : decode b_ByteRow_setBits 20 = .ok (.istore 6, 2) := by decide +kernel
theorem d_ByteRow_setBits_22 : decode b_ByteRow_setBits 22 = .ok (.iload_n 2, 1) := by decide +kernel
theorem d_ByteRow_setBits_23 : decode b_ByteRow_setBits 23 = .ok (.invokestatic 43, 3) := by decide +kernel
theorem d_ByteRow_setBits_26 : decode b_ByteRow_setBits 26 = .ok (.lstore 7, 2) := by decide +kernel
theorem d_ByteRow_setBits_28 : decode b_ByteRow_setBits 28 = .ok (.lload_n 3, 1) := by decide +kernel
theorem d_ByteRow_setBits_29 : decode b_ByteRow_setBits 29 = .ok (.lload 7, 2) := by decide +kernel
theorem d_ByteRow_setBits_31 : decode b_ByteRow_setBits 31 = .ok (.land, 1) := by decide +kernel
theorem d_ByteRow_setBits_32 : decode b_ByteRow_setBits 32 = .ok (.lstore 9, 2) := by decide +kernel
theorem d_ByteRow_setBits_34 : decode b_ByteRow_setBits 34 = .ok (.aload_n 0, 1) := by decide +kernel
theorem d_ByteRow_setBits_35 : decode b_ByteRow_setBits 35 = .ok (.getfield 9, 3) := by decide +kernel
theorem d_ByteRow_setBits_38 : decode b_ByteRow_setBits 38 = .ok (.iload 5, 2) := by decide +kernel
theorem d_ByteRow_setBits_40 : decode b_ByteRow_setBits 40 = .ok (.aload_n 0, 1) := by decide +kernel
theorem d_ByteRow_setBits_41 : decode b_ByteRow_setBits 41 = .ok (.getfield 9, 3) := by decide +kernel
theorem d_ByteRow_setBits_44 : decode b_ByteRow_setBits 44 = .ok (.iload 5, 2) := by decide +kernel
theorem d_ByteRow_setBits_46 : decode b_ByteRow_setBits 46 = .ok (.laload, 1) := by decide +kernel
theorem d_ByteRow_setBits_47 : decode b_ByteRow_setBits 47 = .ok (.lload 7, 2) := by decide +kernel
theorem d_ByteRow_setBits_49 : decode b_ByteRow_setBits 49 = .ok (.iload 6, 2) := by decide +kernel
theorem d_ByteRow_setBits_51 : decode b_ByteRow_setBits 51 = .ok (.lshl, 1) := by decide +kernel
theorem d_ByteRow_setBits_52 : decode b_ByteRow_setBits 52 = .ok (.ldc2_w 47, 3) := by decide +kernel
theorem d_ByteRow_setBits_55 : decode b_ByteRow_setBits 55 = .ok (.lxor, 1) := by decide +kernel
theorem d_ByteRow_setBits_56 : decode b_ByteRow_setBits 56 = .ok (.land, 1) := by decide +kernel
theorem d_ByteRow_setBits_57 : decode b_ByteRow_setBits 57 = .ok (.lload 9, 2) := by decide +kernel
theorem d_ByteRow_setBits_59 : decode b_ByteRow_setBits 59 = .ok (.iload 6, 2) := by decide +kernel
theorem d_ByteRow_setBits_61 : decode b_ByteRow_setBits 61 = .ok (.lshl, 1) := by decide +kernel
theorem d_ByteRow_setBits_62 : decode b_ByteRow_setBits 62 = .ok (.lor, 1) := by decide +kernel
theorem d_ByteRow_setBits_63 : decode b_ByteRow_setBits 63 = .ok (.lastore, 1) := by decide +kernel
theorem d_ByteRow_setBits_64 : decode b_ByteRow_setBits 64 = .ok (.iload 6, 2) := by decide +kernel
theorem d_ByteRow_setBits_66 : decode b_ByteRow_setBits 66 = .ok (.iload_n 2, 1) := by decide +kernel
theorem d_ByteRow_setBits_67 : decode b_ByteRow_setBits 67 = .ok (.iadd, 1) := by decide +kernel
theorem d_ByteRow_setBits_68 : decode b_ByteRow_setBits 68 = .ok (.bipush 64, 2) := by decide +kernel
theorem d_ByteRow_setBits_70 : decode b_ByteRow_setBits 70 = .ok (.if_icmp .le 44, 3) := by decide +kernel
theorem d_ByteRow_setBits_73 : decode b_ByteRow_setBits 73 = .ok (.bipush 64, 2) := by decide +kernel
theorem d_ByteRow_setBits_75 : decode b_ByteRow_setBits 75 = .ok (.iload 6, 2) := by decide +kernel
theorem d_ByteRow_setBits_77 : decode b_ByteRow_setBits 77 = .ok (.isub, 1) := by decide +kernel
theorem d_ByteRow_setBits_78 : decode b_ByteRow_setBits 78 = .ok (.istore 11, 2) := by decide +kernel
theorem d_ByteRow_setBits_80 : decode b_ByteRow_setBits 80 = .ok (.aload_n 0, 1) := by decide +kernel
theorem d_ByteRow_setBits_81 : decode b_ByteRow_setBits 81 = .ok (.getfield 9, 3) := by decide +kernel
theorem d_ByteRow_setBits_84 : decode b_ByteRow_setBits 84 = .ok (.iload 5, 2) := by decide +kernel
theorem d_ByteRow_setBits_86 : decode b_ByteRow_setBits 86 = .ok (.iconst 1, 1) := by decide +kernel
theorem d_ByteRow_setBits_87 : decode b_ByteRow_setBits 87 = .ok (.iadd, 1) := by decide +kernel
theorem d_ByteRow_setBits_88 : decode b_ByteRow_setBits 88 = .ok (.aload_n 0, 1) := by decide +kernel
theorem d_ByteRow_setBits_89 : decode b_ByteRow_setBits 89 = .ok (.getfield 9, 3) := by decide +kernel
theorem d_ByteRow_setBits_92 : decode b_ByteRow_setBits 92 = .ok (.iload 5, 2) := by decide +kernel
theorem d_ByteRow_setBits_94 : decode b_ByteRow_setBits 94 = .ok (.iconst 1, 1) := by decide +kernel
theorem d_ByteRow_setBits_95 : decode b_ByteRow_setBits 95 = .ok (.iadd, 1) := by decide +kernel
theorem d_ByteRow_setBits_96 : decode b_ByteRow_setBits 96 = .ok (.laload, 1) := by decide +kernel
theorem d_ByteRow_setBits_97 : decode b_ByteRow_setBits 97 = .ok (.lload 7, 2) := by decide +kernel
theorem d_ByteRow_setBits_99 : decode b_ByteRow_setBits 99 = .ok (.iload 11, 2) := by decide +kernel
theorem d_ByteRow_setBits_101 : decode b_ByteRow_setBits 101 = .ok (.lushr, 1) := by decide +kernel
theorem d_ByteRow_setBits_102 : decode b_ByteRow_setBits 102 = .ok (.ldc2_w 47, 3) := by decide +kernel
theorem d_ByteRow_setBits_105 : decode b_ByteRow_setBits 105 = .ok (.lxor, 1) := by decide +kernel
theorem d_ByteRow_setBits_106 : decode b_ByteRow_setBits 106 = .ok (.land, 1) := by decide +kernel
theorem d_ByteRow_setBits_107 : decode b_ByteRow_setBits 107 = .ok (.lload 9, 2) := by decide +kernel
theorem d_ByteRow_setBits_109 : decode b_ByteRow_setBits 109 = .ok (.iload 11, 2) := by decide +kernel
theorem d_ByteRow_setBits_111 : decode b_ByteRow_setBits 111 = .ok (.lushr, 1) := by decide +kernel
theorem d_ByteRow_setBits_112 : decode b_ByteRow_setBits 112 = .ok (.lor, 1) := by decide +kernel
theorem d_ByteRow_setBits_113 : decode b_ByteRow_setBits 113 = .ok (.lastore, 1) := by decide +kernel
theorem d_ByteRow_setBits_114 : decode b_ByteRow_setBits 114 = .ok (.return_, 1) := by decide +kernel
theorem d_ByteRow_hasRoom_0 : decode b_ByteRow_hasRoom 0 = .ok (.iload_n 1, 1) := by decide +kernel
theorem d_ByteRow_hasRoom_1 : decode b_ByteRow_hasRoom 1 = .ok (.ifCond .lt 25, 3) := by decide +kernel
theorem d_ByteRow_hasRoom_4 : decode b_ByteRow_hasRoom 4 = .ok (.iload_n 2, 1) := by decide +kernel
theorem d_ByteRow_hasRoom_5 : decode b_ByteRow_hasRoom 5 = .ok (.ifCond .le 21, 3) := by decide +kernel
theorem d_ByteRow_hasRoom_8 : decode b_ByteRow_hasRoom 8 = .ok (.iload_n 2, 1) := by decide +kernel
theorem d_ByteRow_hasRoom_9 : decode b_ByteRow_hasRoom 9 = .ok (.bipush 64, 2) := by decide +kernel
theorem d_ByteRow_hasRoom_11 : decode b_ByteRow_hasRoom 11 = .ok (.if_icmp .gt 15, 3) := by decide +kernel
theorem d_ByteRow_hasRoom_14 : decode b_ByteRow_hasRoom 14 = .ok (.iload_n 1, 1) := by decide +kernel
theorem d_ByteRow_hasRoom_15 : decode b_ByteRow_hasRoom 15 = .ok (.ldc 49, 2) := by decide +kernel
theorem d_ByteRow_hasRoom_17 : decode b_ByteRow_hasRoom 17 = .ok (.iload_n 2, 1) := by decide +kernel
theorem d_ByteRow_hasRoom_18 : decode b_ByteRow_hasRoom 18 = .ok (.isub, 1) := by decide +kernel
theorem d_ByteRow_hasRoom_19 : decode b_ByteRow_hasRoom 19 = .ok (.if_icmp .gt 7, 3) := by decide +kernel
theorem d_ByteRow_hasRoom_22 : decode b_ByteRow_hasRoom 22 = .ok (.iconst 1, 1) := by decide +kernel
theorem d_ByteRow_hasRoom_23 : decode b_ByteRow_hasRoom 23 = .ok (.goto 4, 3) := by decide +kernel
theorem d_ByteRow_hasRoom_26 : decode b_ByteRow_hasRoom 26 = .ok (.iconst 0, 1) := by decide +kernel
theorem d_ByteRow_hasRoom_27 : decode b_ByteRow_hasRoom 27 = .ok (.ireturn, 1) := by decide +kernel
theorem d_ByteRow_maskOf_0 : decode b_ByteRow_maskOf 0 = .ok (.ldc2_w 47, 3) := by decide +kernel
theorem d_ByteRow_maskOf_3 : decode b_ByteRow_maskOf 3 = .ok (.bipush 64, 2) := by decide +kernel
theorem d_ByteRow_maskOf_5 : decode b_ByteRow_maskOf 5 = .ok (.iload_n 0, 1) := by decide +kernel
theorem d_ByteRow_maskOf_6 : decode b_ByteRow_maskOf 6 = .ok (.isub, 1) := by decide +kernel
theorem d_ByteRow_maskOf_7 : decode b_ByteRow_maskOf 7 = .ok (.lushr, 1) := by decide +kernel
theorem d_ByteRow_maskOf_8 : decode b_ByteRow_maskOf 8 = .ok (.lreturn, 1) := by decide +kernel
