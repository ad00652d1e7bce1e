theorem d_Model_init_0 : decode b_Model_init 0 = .ok (.aload_n 0, 1) := by decide +kernel
theorem d_Model_init_1 : decode b_Model_init 1 = .ok (.invokespecial 1, 3) := by decide +kernel
theorem d_Model_init_4 : decode b_Model_init 4 = .ok (.aload_n 0, 1) := by decide +kernel
theorem d_Model_init_5 : decode b_Model_init 5 = .ok (.sipush 2000, 3) := by decide +kernel
theorem d_Model_init_8 : decode b_Model_init 8 = .ok (.newarray .long, 2) := by decide +kernel
theorem d_Model_init_10 : decode b_Model_init 10 = .ok (.putfield 7, 3) := by decide +kernel
theorem d_Model_init_13 : decode b_Model_init 13 = .ok (.aload_n 0, 1) := by decide +kernel
theorem d_Model_init_14 : decode b_Model_init 14 = .ok (.sipush 2000, 3) := by decide +kernel
theorem d_Model_init_17 : decode b_Model_init 17 = .ok (.newarray .long, 2) := by decide +kernel
theorem d_Model_init_19 : decode b_Model_init 19 = .ok (.putfield 13, 3) := by decide +kernel
theorem d_Model_init_22 : decode b_Model_init 22 = .ok (.aload_n 0, 1) := by decide +kernel
theorem d_Model_init_23 : decode b_Model_init 23 = .ok (.sipush 20000, 3) := by decide +kernel
theorem d_Model_init_26 : decode b_Model_init 26 = .ok (.newarray .int, 2) := by decide +kernel
theorem d_Model_init_28 : decode b_Model_init 28 = .ok (.putfield 16, 3) := by decide +kernel
theorem d_Model_init_31 : decode b_Model_init 31 = .ok (.aload_n 0, 1) := by decide +kernel
theorem d_Model_init_32 : decode b_Model_init 32 = .ok (.iconst (-1), 1) := by decide +kernel
theorem d_Model_init_33 : decode b_Model_init 33 = .ok (.putfield 20, 3) := by decide +kernel
theorem d_Model_init_36 : decode b_Model_init 36 = .ok (.aload_n 0, 1) := by decide +kernel
theorem d_Model_init_37 : decode b_Model_init 37 = .ok (.bipush 40, 2) := by decide +kernel
theorem d_Model_init_39 : decode b_Model_init 39 = .ok (.newarray .long, 2) := by decide +kernel
theorem d_Model_init_41 : decode b_Model_init 41 = .ok (.putfield 24, 3) := by decide +kernel
theorem d_Model_init_44 : decode b_Model_init 44 = .ok (.aload_n 0, 1) := by decide +kernel
theorem d_Model_init_45 : decode b_Model_init 45 = .ok (.bipush 40, 2) := by decide +kernel
theorem d_Model_init_47 : decode b_Model_init 47 = .ok (.newarray .long, 2) := by decide +kernel
theorem d_Model_init_49 : decode b_Model_init 49 = .ok (.putfield 27, 3) := by decide +kernel
theorem d_Model_init_52 : decode b_Model_init 52 = .ok (.aload_n 0, 1) := by decide +kernel
theorem d_Model_init_53 : decode b_Model_init 53 = .ok (.sipush 160, 3) := by decide +kernel
theorem d_Model_init_56 : decode b_Model_init 56 = .ok (.newarray .int, 2) := by decide +kernel
theorem d_Model_init_58 : decode b_Model_init 58 = .ok (.putfield 30, 3) := by decide +kernel
theorem d_Model_init_61 : decode b_Model_init 61 = .ok (.aload_n 0, 1) := by decide +kernel
theorem d_Model_init_62 : decode b_Model_init 62 = .ok (.sipush 160, 3) := by decide +kernel
theorem d_Model_init_65 : decode b_Model_init 65 = .ok (.newarray .int, 2) := by decide +kernel
theorem d_Model_init_67 : decode b_Model_init 67 = .ok (.putfield 33, 3) := by decide +kernel
theorem d_Model_init_70 : decode b_Model_init 70 = .ok (.aload_n 0, 1) := by decide +kernel
theorem d_Model_init_71 : decode b_Model_init 71 = .ok (.sipush 160, 3) := by decide +kernel
theorem d_Model_init_74 : decode b_Model_init 74 = .ok (.newarray .int, 2) := by decide +kernel
theorem d_Model_init_76 : decode b_Model_init 76 = .ok (.putfield 36, 3) := by decide +kernel
theorem d_Model_init_79 : decode b_Model_init 79 = .ok (.aload_n 0, 1) := by decide +kernel
theorem d_Model_init_80 : decode b_Model_init 80 = .ok (.sipush 160, 3) := by decide +kernel
theorem d_Model_init_83 : decode b_Model_init 83 = .ok (.newarray .int, 2) := by decide +kernel
theorem d_Model_init_85 : decode b_Model_init 85 = .ok (.putfield 39, 3) := by decide +kernel
theorem d_Model_init_88 : decode b_Model_init 88 = .ok (.return_, 1) := by decide +kernel
theorem d_Model_put_0 : decode b_Model_put 0 = .ok (.aload_n 0, 1) := by decide +kernel
theorem d_Model_put_1 : decode b_Model_put 1 = .ok (.iconst 0, 1) := by decide +kernel
theorem d_Model_put_2 : decode b_Model_put 2 = .ok (.putfield 42, 3) := by decide +kernel
theorem d_Model_put_5 : decode b_Model_put 5 = .ok (.aload_n 0, 1) := by decide +kernel
theorem d_Model_put_6 : decode b_Model_put 6 = .ok (.getfield 45, 3) := by decide +kernel
theorem d_Model_put_9 : decode b_Model_put 9 = .ok (.sipush 2000, 3) := by decide +kernel
theorem d_Model_put_12 : decode b_Model_put 12 = .ok (.if_icmp .ne 5, 3) := by decide +kernel
theorem d_Model_put_15 : decode b_Model_put 15 = .ok (.iconst 0, 1) := by decide +kernel
theorem d_Model_put_16 : decode b_Model_put 16 = .ok (.ireturn, 1) := by decide +kernel
theorem d_Model_put_17 : decode b_Model_put 17 = .ok (.aload_n 0, 1) := by decide +kernel
theorem d_Model_put_18 : decode b_Model_put 18 = .ok (.getfield 7, 3) := by decide +kernel
theorem d_Model_put_21 : decode b_Model_put 21 = .ok (.aload_n 0, 1) := by decide +kernel
theorem d_Model_put_22 : decode b_Model_put 22 = .ok (.getfield 45, 3) := by decide +kernel
theorem d_Model_put_25 : decode b_Model_put 25 = .ok (.lload_n 1, 1) := by decide +kernel
theorem d_Model_put_26 : decode b_Model_put 26 = .ok (.lastore, 1) := by decide +kernel
theorem d_Model_put_27 : decode b_Model_put 27 = .ok (.aload_n 0, 1) := by decide +kernel
theorem d_Model_put_28 : decode b_Model_put 28 = .ok (.dup, 1) := by decide +kernel
theorem d_Model_put_29 : decode b_Model_put 29 = .ok (.getfield 45, 3) := by decide +kernel
theorem d_Model_put_32 : decode b_Model_put 32 = .ok (.iconst 1, 1) := by decide +kernel
theorem d_Model_put_33 : decode b_Model_put 33 = .ok (.iadd, 1) := by decide +kernel
theorem d_Model_put_34 : decode b_Model_put 34 = .ok (.putfield 45, 3) := by decide +kernel
theorem d_Model_put_37 : decode b_Model_put 37 = .ok (.iconst 1, 1) := by decide +kernel
theorem d_Model_put_38 : decode b_Model_put 38 = .ok (.ireturn, 1) := by decide +kernel
theorem d_Model_clear_0 : decode b_Model_clear 0 = .ok (.aload_n 0, 1) := by decide +kernel
theorem d_Model_clear_1 : decode b_Model_clear 1 = .ok (.iconst 0, 1) := by decide +kernel
theorem d_Model_clear_2 : decode b_Model_clear 2 = .ok (.putfield 42, 3) := by decide +kernel
theorem d_Model_clear_5 : decode b_Model_clear 5 = .ok (.aload_n 0, 1) := by decide +kernel
theorem d_Model_clear_6 : decode b_Model_clear 6 = .ok (.iconst 0, 1) := by decide +kernel
theorem d_Model_clear_7 : decode b_Model_clear 7 = .ok (.putfield 45, 3) := by decide +kernel
theorem d_Model_clear_10 : decode b_Model_clear 10 = .ok (.return_, 1) := by decide +kernel
theorem d_Model_count_0 : decode b_Model_count 0 = .ok (.aload_n 0, 1) := by decide +kernel
theorem d_Model_count_1 : decode b_Model_count 1 = .ok (.iconst 0, 1) := by decide +kernel
theorem d_Model_count_2 : decode b_Model_count 2 = .ok (.putfield 42, 3) := by decide +kernel
theorem d_Model_count_5 : decode b_Model_count 5 = .ok (.aload_n 0, 1) := by decide +kernel
theorem d_Model_count_6 : decode b_Model_count 6 = .ok (.getfield 45, 3) := by decide +kernel
theorem d_Model_count_9 : decode b_Model_count 9 = .ok (.ireturn, 1) := by decide +kernel
theorem d_Model_get_0 : decode b_Model_get 0 = .ok (.aload_n 0, 1) := by decide +kernel
theorem d_Model_get_1 : decode b_Model_get 1 = .ok (.iconst 0, 1) := by decide +kernel
theorem d_Model_get_2 : decode b_Model_get 2 = .ok (.putfield 42, 3) := by decide +kernel
theorem d_Model_get_5 : decode b_Model_get 5 = .ok (.iload_n 1, 1) := by decide +kernel
theorem d_Model_get_6 : decode b_Model_get 6 = .ok (.ifCond .lt 11, 3) := by decide +kernel
theorem d_Model_get_9 : decode b_Model_get 9 = .ok (.iload_n 1, 1) := by decide +kernel
theorem d_Model_get_10 : decode b_Model_get 10 = .ok (.aload_n 0, 1) := by decide +kernel
theorem d_Model_get_11 : decode b_Model_get 11 = .ok (.getfield 45, 3) := by decide +kernel
theorem d_Model_get_14 : decode b_Model_get 14 = .ok (.if_icmp .lt 7, 3) := by decide +kernel
theorem d_Model_get_17 : decode b_Model_get 17 = .ok (.lconst 0, 1) := by decide +kernel
theorem d_Model_get_18 : decode b_Model_get 18 = .ok (.goto 9, 3) := by decide +kernel
theorem d_Model_get_21 : decode b_Model_get 21 = .ok (.aload_n 0, 1) := by decide +kernel
theorem d_Model_get_22 : decode b_Model_get 22 = .ok (.getfield 7, 3) := by decide +kernel
theorem d_Model_get_25 : decode b_Model_get 25 = .ok (.iload_n 1, 1) := by decide +kernel
theorem d_Model_get_26 : decode b_Model_get 26 = .ok (.laload, 1) := by decide +kernel
theorem d_Model_get_27 : decode b_Model_get 27 = .ok (.lreturn, 1) := by decide +kernel
theorem d_Model_add_0 : decode b_Model_add 0 = .ok (.aload_n 0, 1) := by decide +kernel
theorem d_Model_add_1 : decode b_Model_add 1 = .ok (.getfield 16, 3) := by decide +kernel
theorem d_Model_add_4 : decode b_Model_add 4 = .ok (.aload_n 0, 1) := by decide +kernel
theorem d_Model_add_5 : decode b_Model_add 5 = .ok (.getfield 48, 3) := by decide +kernel
theorem d_Model_add_8 : decode b_Model_add 8 = .ok (.iload_n 1, 1) := by decide +kernel
theorem d_Model_add_9 : decode b_Model_add 9 = .ok (.sipush 255, 3) := by decide +kernel
theorem d_Model_add_12 : decode b_Model_add 12 = .ok (.iand, 1) := by decide +kernel
theorem d_Model_add_13 : decode b_Model_add 13 = .ok (.iastore, 1) := by decide +kernel
theorem d_Model_add_14 : decode b_Model_add 14 = .ok (.aload_n 0, 1) := by decide +kernel
theorem d_Model_add_15 : decode b_Model_add 15 = .ok (.dup, 1) := by decide +kernel
theorem d_Model_add_16 : decode b_Model_add 16 = .ok (.getfield 48, 3) := by decide +kernel
theorem d_Model_add_19 : decode b_Model_add 19 = .ok (.iconst 1, 1) := by decide +kernel
theorem d_Model_add_20 : decode b_Model_add 20 = .ok (.iadd, 1) := by decide +kernel
theorem d_Model_add_21 : decode b_Model_add 21 = .ok (.putfield 48, 3) := by decide +kernel
theorem d_Model_add_24 : decode b_Model_add 24 = .ok (.return_, 1) := by decide +kernel
theorem d_Model_addVarint_0 : decode b_Model_addVarint 0 = .ok (.iconst 1, 1) := by decide +kernel
theorem d_Model_addVarint_1 : decode b_Model_addVarint 1 = .ok (.istore_n 3, 1) := by decide +kernel
theorem d_Model_addVarint_2 : decode b_Model_addVarint 2 = .ok (.iload_n 3, 1) := by decide +kernel
theorem d_Model_addVarint_3 : decode b_Model_addVarint 3 = .ok (.bipush 10, 2) := by decide +kernel
theorem d_Model_addVarint_5 : decode b_Model_addVarint 5 = .ok (.if_icmp .ge 20, 3) := by decide +kernel
theorem d_Model_addVarint_8 : decode b_Model_addVarint 8 = .ok (.lload_n 1, 1) := by decide +kernel
theorem d_Model_addVarint_9 : decode b_Model_addVarint 9 = .ok (.bipush 7, 2) := by decide +kernel
theorem d_Model_addVarint_11 : decode b_Model_addVarint 11 = .ok (.iload_n 3, 1) := by decide +kernel
theorem d_Model_addVarint_12 : decode b_Model_addVarint 12 = .ok (.imul, 1) := by decide +kernel
theorem d_Model_addVarint_13 : decode b_Model_addVarint 13 = .ok (.lushr, 1) := by decide +kernel
theorem d_Model_addVarint_14 : decode b_Model_addVarint 14 = .ok (.lconst 0, 1) := by decide +kernel
theorem d_Model_addVarint_15 : decode b_Model_addVarint 15 = .ok (.lcmp, 1) := by decide +kernel
theorem d_Model_addVarint_16 : decode b_Model_addVarint 16 = .ok (.ifCond .eq 9, 3) := by decide +kernel
theorem d_Model_addVarint_19 : decode b_Model_addVarint 19 = .ok (.iinc 3 1, 3) := by decide +kernel
theorem d_Model_addVarint_22 : decode b_Model_addVarint 22 = .ok (.goto (-20), 3) := by decide +kernel
theorem d_Model_addVarint_25 : decode b_Model_addVarint 25 = .ok (.iconst 0, 1) := by decide +kernel
theorem d_Model_addVarint_26 : decode b_Model_addVarint 26 = .ok (.istore 4, 2) := by decide +kernel
theorem d_Model_addVarint_28 : decode b_Model_addVarint 28 = .ok (.iload 4, 2) := by decide +kernel
theorem d_Model_addVarint_30 : decode b_Model_addVarint 30 = .ok (.iload_n 3, 1) := by decide +kernel
theorem d_Model_addVarint_31 : decode b_Model_addVarint 31 = .ok (.if_icmp .ge 41, 3) := by decide +kernel
theorem d_Model_addVarint_34 : decode b_Model_addVarint 34 = .ok (.aload_n 0, 1) := by decide +kernel
theorem d_Model_addVarint_35 : decode b_Model_addVarint 35 = .ok (.lload_n 1, 1) := by decide +kernel
theorem d_Model_addVarint_36 : decode b_Model_addVarint 36 = .ok (.bipush 7, 2) := by decide +kernel
theorem d_Model_addVarint_38 : decode b_Model_addVarint 38 = .ok (.iload 4, 2) := by decide +kernel
theorem d_Model_addVarint_40 : decode b_Model_addVarint 40 = .ok (.imul, 1) := by decide +kernel
theorem d_Model_addVarint_41 : decode b_Model_addVarint 41 = .ok (.lushr, 1) := by decide +kernel
theorem d_Model_addVarint_42 : decode b_Model_addVarint 42 = .ok (.ldc2_w 51, 3) := by decide +kernel
theorem d_Model_addVarint_45 : decode b_Model_addVarint 45 = .ok (.land, 1) := by decide +kernel
theorem d_Model_addVarint_46 : decode b_Model_addVarint 46 = .ok (.l2i, 1) := by decide +kernel
theorem d_Model_addVarint_47 : decode b_Model_addVarint 47 = .ok (.iload 4, 2) := by decide +kernel
theorem d_Model_addVarint_49 : decode b_Model_addVarint 49 = .ok (.iload_n 3, 1) := by decide +kernel
theorem d_Model_addVarint_50 : decode b_Model_addVarint 50 = .ok (.iconst 1, 1) := by decide +kernel
theorem d_Model_addVarint_51 : decode b_Model_addVarint 51 = .ok (.isub, 1) := by decide +kernel
theorem d_Model_addVarint_52 : decode b_Model_addVarint 52 = .ok (.if_icmp .ge 9, 3) := by decide +kernel
theorem d_Model_addVarint_55 : decode b_Model_addVarint 55 = .ok (.sipush 128, 3) := by decide +kernel
theorem d_Model_addVarint_58 : decode b_Model_addVarint 58 = .ok (.goto 4, 3) := by decide +kernel
theorem d_Model_addVarint_61 : decode b_Model_addVarint 61 = .ok (.iconst 0, 1) := by decide +kernel
theorem d_Model_addVarint_62 : decode b_Model_addVarint 62 = .ok (.iadd, 1) := by decide +kernel
theorem d_Model_addVarint_63 : decode b_Model_addVarint 63 = .ok (.invokevirtual 53, 3) := by decide +kernel
theorem d_Model_addVarint_66 : decode b_Model_addVarint 66 = .ok (.iinc 4 1, 3) := by decide +kernel
theorem d_Model_addVarint_69 : decode b_Model_addVarint 69 = .ok (.goto (-41), 3) := by decide +kernel
theorem d_Model_addVarint_72 : decode b_Model_addVarint 72 = .ok (.return_, 1) := by decide +kernel
theorem d_Model_zigzag_0 : decode b_Model_zigzag 0 = .ok (.lload_n 0, 1) := by decide +kernel
theorem d_Model_zigzag_1 : decode b_Model_zigzag 1 = .ok (.lconst 0, 1) := by decide +kernel
theorem d_Model_zigzag_2 : decode b_Model_zigzag 2 = .ok (.lcmp, 1) := by decide +kernel
theorem d_Model_zigzag_3 : decode b_Model_zigzag 3 = .ok (.ifCond .ge 13, 3) := by decide +kernel
theorem d_Model_zigzag_6 : decode b_Model_zigzag 6 = .ok (.ldc2_w 57, 3) := by decide +kernel
theorem d_Model_zigzag_9 : decode b_Model_zigzag 9 = .ok (.lload_n 0, 1) := by decide +kernel
theorem d_Model_zigzag_10 : decode b_Model_zigzag 10 = .ok (.lmul, 1) := by decide +kernel
theorem d_Model_zigzag_11 : decode b_Model_zigzag 11 = .ok (.lconst 1, 1) := by decide +kernel
theorem d_Model_zigzag_12 : decode b_Model_zigzag 12 = .ok (.lsub, 1) := by decide +kernel
theorem d_Model_zigzag_13 : decode b_Model_zigzag 13 = .ok (.goto 8, 3) := by decide +kernel
theorem d_Model_zigzag_16 : decode b_Model_zigzag 16 = .ok (.ldc2_w 59, 3) := by decide +kernel
theorem d_Model_zigzag_19 : decode b_Model_zigzag 19 = .ok (.lload_n 0, 1) := by decide +kernel
theorem d_Model_zigzag_20 : decode b_Model_zigzag 20 = .ok (.lmul, 1) := by decide +kernel
theorem d_Model_zigzag_21 : decode b_Model_zigzag 21 = .ok (.lreturn, 1) := by decide +kernel
theorem d_Model_unzigzag_0 : decode b_Model_unzigzag 0 = .ok (.lload_n 0, 1) := by decide +kernel
theorem d_Model_unzigzag_1 : decode b_Model_unzigzag 1 = .ok (.lconst 1, 1) := by decide +kernel
theorem d_Model_unzigzag_2 : decode b_Model_unzigzag 2 = .ok (.land, 1) := by decide +kernel
theorem d_Model_unzigzag_3 : decode b_Model_unzigzag 3 = .ok (.lconst 0, 1) := by decide +kernel
theorem d_Model_unzigzag_4 : decode b_Model_unzigzag 4 = .ok (.lcmp, 1) := by decide +kernel
theorem d_Model_unzigzag_5 : decode b_Model_unzigzag 5 = .ok (.ifCond .ne 9, 3) := by decide +kernel
theorem d_Model_unzigzag_8 : decode b_Model_unzigzag 8 = .ok (.lload_n 0, 1) := by decide +kernel
theorem d_Model_unzigzag_9 : decode b_Model_unzigzag 9 = .ok (.iconst 1, 1) := by decide +kernel
theorem d_Model_unzigzag_10 : decode b_Model_unzigzag 10 = .ok (.lushr, 1) := by decide +kernel
theorem d_Model_unzigzag_11 : decode b_Model_unzigzag 11 = .ok (.goto 9, 3) := by decide +kernel
theorem d_Model_unzigzag_14 : decode b_Model_unzigzag 14 = .ok (.lload_n 0, 1) := by decide +kernel
theorem d_Model_unzigzag_15 : decode b_Model_unzigzag 15 = .ok (.iconst 1, 1) := by decide +kernel
theorem d_Model_unzigzag_16 : decode b_Model_unzigzag 16 = .ok (.lushr, 1) := by decide +kernel
theorem d_Model_unzigzag_17 : decode b_Model_unzigzag 17 = .ok (.lneg, 1) := by decide +kernel
theorem d_Model_unzigzag_18 : decode b_Model_unzigzag 18 = .ok (.lconst 1, 1) := by decide +kernel
theorem d_Model_unzigzag_19 : decode b_Model_unzigzag 19 = .ok (.lsub, 1) := by decide +kernel
theorem d_Model_unzigzag_20 : decode b_Model_unzigzag 20 = .ok (.lreturn, 1) := by decide +kernel
theorem d_Model_difference_0 : decode b_Model_difference 0 = .ok (.aload_n 0, 1) := by decide +kernel
theorem d_Model_difference_1 : decode b_Model_difference 1 = .ok (.getfield 7, 3) := by decide +kernel
theorem d_Model_difference_4 : decode b_Model_difference 4 = .ok (.iload_n 1, 1) := by decide +kernel
theorem d_Model_difference_5 : decode b_Model_difference 5 = .ok (.iconst 1, 1) := by decide +kernel
theorem d_Model_difference_6 : decode b_Model_difference 6 = .ok (.iadd, 1) := by decide +kernel
theorem d_Model_difference_7 : decode b_Model_difference 7 = .ok (.laload, 1) := by decide +kernel
theorem d_Model_difference_8 : decode b_Model_difference 8 = .ok (.aload_n 0, 1) := by decide +kernel
theorem d_Model_difference_9 : decode b_Model_difference 9 = .ok (.getfield 7, 3) := by decide +kernel
theorem d_Model_difference_12 : decode b_Model_difference 12 = .ok (.iload_n 1, 1) := by decide +kernel
theorem d_Model_difference_13 : decode b_Model_difference 13 = .ok (.laload, 1) := by decide +kernel
theorem d_Model_difference_14 : decode b_Model_difference 14 = .ok (.lsub, 1) := by decide +kernel
theorem d_Model_difference_15 : decode b_Model_difference 15 = .ok (.lreturn, 1) := by decide +kernel
theorem d_Model_write_0 : decode b_Model_write 0 = .ok (.aload_n 0, 1) := by decide +kernel
theorem d_Model_write_1 : decode b_Model_write 1 = .ok (.iconst 0, 1) := by decide +kernel
theorem d_Model_write_2 : decode b_Model_write 2 = .ok (.putfield 42, 3) := by decide +kernel
theorem d_Model_write_5 : decode b_Model_write 5 = .ok (.aload_n 0, 1) := by decide +kernel
theorem d_Model_write_6 : decode b_Model_write 6 = .ok (.iconst 0, 1) := by decide +kernel
theorem d_Model_write_7 : decode b_Model_write 7 = .ok (.putfield 48, 3) := by decide +kernel
theorem d_Model_write_10 : decode b_Model_write 10 = .ok (.aload_n 0, 1) := by decide +kernel
theorem d_Model_write_11 : decode b_Model_write 11 = .ok (.iconst 0, 1) := by decide +kernel
theorem d_Model_write_12 : decode b_Model_write 12 = .ok (.putfield 61, 3) := by decide +kernel
theorem d_Model_write_15 : decode b_Model_write 15 = .ok (.aload_n 0, 1) := by decide +kernel
theorem d_Model_write_16 : decode b_Model_write 16 = .ok (.aload_n 0, 1) := by decide +kernel
theorem d_Model_write_17 : decode b_Model_write 17 = .ok (.getfield 45, 3) := by decide +kernel
theorem d_Model_write_20 : decode b_Model_write 20 = .ok (.i2l, 1) := by decide +kernel
theorem d_Model_write_21 : decode b_Model_write 21 = .ok (.invokevirtual 64, 3) := by decide +kernel
theorem d_Model_write_24 : decode b_Model_write 24 = .ok (.aload_n 0, 1) := by decide +kernel
theorem d_Model_write_25 : decode b_Model_write 25 = .ok (.getfield 45, 3) := by decide +kernel
theorem d_Model_write_28 : decode b_Model_write 28 = .ok (.ifCond .le 16, 3) := by decide +kernel
theorem d_Model_write_31 : decode b_Model_write 31 = .ok (.aload_n 0, 1) := by decide +kernel
theorem d_Model_write_32 : decode b_Model_write 32 = .ok (.aload_n 0, 1) := by decide +kernel
theorem d_Model_write_33 : decode b_Model_write 33 = .ok (.getfield 7, 3) := by decide +kernel
theorem d_Model_write_36 : decode b_Model_write 36 = .ok (.iconst 0, 1) := by decide +kernel
theorem d_Model_write_37 : decode b_Model_write 37 = .ok (.laload, 1) := by decide +kernel
theorem d_Model_write_38 : decode b_Model_write 38 = .ok (.invokestatic 68, 3) := by decide +kernel
theorem d_Model_write_41 : decode b_Model_write 41 = .ok (.invokevirtual 64, 3) := by decide +kernel
theorem d_Model_write_44 : decode b_Model_write 44 = .ok (.iconst 0, 1) := by decide +kernel
theorem d_Model_write_45 : decode b_Model_write 45 = .ok (.istore_n 1, 1) := by decide +kernel
theorem d_Model_write_46 : decode b_Model_write 46 = .ok (.iload_n 1, 1) := by decide +kernel
theorem d_Model_write_47 : decode b_Model_write 47 = .ok (.aload_n 0, 1) := by decide +kernel
theorem d_Model_write_48 : decode b_Model_write 48 = .ok (.getfield 45, 3) := by decide +kernel
theorem d_Model_write_51 : decode b_Model_write 51 = .ok (.iconst 1, 1) := by decide +kernel
theorem d_Model_write_52 : decode b_Model_write 52 = .ok (.isub, 1) := by decide +kernel
theorem d_Model_write_53 : decode b_Model_write 53 = .ok (.if_icmp .ge 401, 3) := by decide +kernel
theorem d_Model_write_56 : decode b_Model_write 56 = .ok (.iload_n 1, 1) := by decide +kernel
theorem d_Model_write_57 : decode b_Model_write 57 = .ok (.bipush 64, 2) := by decide +kernel
theorem d_Model_write_59 : decode b_Model_write 59 = .ok (.iadd, 1) := by decide +kernel
theorem d_Model_write_60 : decode b_Model_write 60 = .ok (.aload_n 0, 1) := by decide +kernel
theorem d_Model_write_61 : decode b_Model_write 61 = .ok (.getfield 45, 3) := by decide +kernel
theorem d_Model_write_64 : decode b_Model_write 64 = .ok (.iconst 1, 1) := by decide +kernel
theorem d_Model_write_65 : decode b_Model_write 65 = .ok (.isub, 1) := by decide +kernel
theorem d_Model_write_66 : decode b_Model_write 66 = .ok (.if_icmp .ge 10, 3) := by decide +kernel
theorem d_Model_write_69 : decode b_Model_write 69 = .ok (.iload_n 1, 1) := by decide +kernel
theorem d_Model_write_70 : decode b_Model_write 70 = .ok (.bipush 64, 2) := by decide +kernel
theorem d_Model_write_72 : decode b_Model_write 72 = .ok (.iadd, 1) := by decide +kernel
theorem d_Model_write_73 : decode b_Model_write 73 = .ok (.goto 9, 3) := by decide +kernel
theorem d_Model_write_76 : decode b_Model_write 76 = .ok (.aload_n 0, 1) := by decide +kernel
theorem d_Model_write_77 : decode b_Model_write 77 = .ok (.getfield 45, 3) := by decide +kernel
theorem d_Model_write_80 : decode b_Model_write 80 = .ok (.iconst 1, 1) := by decide +kernel
theorem d_Model_write_81 : decode b_Model_write 81 = .ok (.isub, 1) := by decide +kernel
theorem d_Model_write_82 : decode b_Model_write 82 = .ok (.istore_n 2, 1) := by decide +kernel
theorem d_Model_write_83 : decode b_Model_write 83 = .ok (.aload_n 0, 1) := by decide +kernel
theorem d_Model_write_84 : decode b_Model_write 84 = .ok (.iload_n 1, 1) := by decide +kernel
theorem d_Model_write_85 : decode b_Model_write 85 = .ok (.invokevirtual 72, 3) := by decide +kernel
theorem d_Model_write_88 : decode b_Model_write 88 = .ok (.lstore_n 3, 1) := by decide +kernel
theorem d_Model_write_89 : decode b_Model_write 89 = .ok (.iload_n 1, 1) := by decide +kernel
theorem d_Model_write_90 : decode b_Model_write 90 = .ok (.istore 5, 2) := by decide +kernel
theorem d_Model_write_92 : decode b_Model_write 92 = .ok (.iload 5, 2) := by decide +kernel
