theorem d_DeltaRows_init_0 : decode b_DeltaRows_init 0 = .ok (.aload_n 0, 1) := by decide +kernel
theorem d_DeltaRows_init_1 : decode b_DeltaRows_init 1 = .ok (.invokespecial 3, 3) := by decide +kernel
theorem d_DeltaRows_init_4 : decode b_DeltaRows_init 4 = .ok (.aload_n 0, 1) := by decide +kernel
theorem d_DeltaRows_init_5 : decode b_DeltaRows_init 5 = .ok (.sipush 2000, 3) := by decide +kernel
theorem d_DeltaRows_init_8 : decode b_DeltaRows_init 8 = .ok (.newarray .long, 2) := by decide +kernel
theorem d_DeltaRows_init_10 : decode b_DeltaRows_init 10 = .ok (.putfield 9, 3) := by decide +kernel
theorem d_DeltaRows_init_13 : decode b_DeltaRows_init 13 = .ok (.aload_n 0, 1) := by decide +kernel
theorem d_DeltaRows_init_14 : decode b_DeltaRows_init 14 = .ok (.iconst 0, 1) := by decide +kernel
theorem d_DeltaRows_init_15 : decode b_DeltaRows_init 15 = .ok (.putfield 13, 3) := by decide +kernel
theorem d_DeltaRows_init_18 : decode b_DeltaRows_init 18 = .ok (.aload_n 0, 1) := by decide +kernel
theorem d_DeltaRows_init_19 : decode b_DeltaRows_init 19 = .ok (.new 17, 3) := by decide +kernel
theorem d_DeltaRows_init_22 : decode b_DeltaRows_init 22 = .ok (.dup, 1) := by decide +kernel
theorem d_DeltaRows_init_23 : decode b_DeltaRows_init 23 = .ok (.invokespecial 19, 3) := by decide +kernel
theorem d_DeltaRows_init_26 : decode b_DeltaRows_init 26 = .ok (.putfield 20, 3) := by decide +kernel
theorem d_DeltaRows_init_29 : decode b_DeltaRows_init 29 = .ok (.aload_n 0, 1) := by decide +kernel
theorem d_DeltaRows_init_30 : decode b_DeltaRows_init 30 = .ok (.new 24, 3) := by decide +kernel
theorem d_DeltaRows_init_33 : decode b_DeltaRows_init 33 = .ok (.dup, 1) := by decide +kernel
theorem d_DeltaRows_init_34 : decode b_DeltaRows_init 34 = .ok (.aload_n 0, 1) := by decide +kernel
theorem d_DeltaRows_init_35 : decode b_DeltaRows_init 35 = .ok (.getfield 20, 3) := by decide +kernel
theorem d_DeltaRows_init_38 : decode b_DeltaRows_init 38 = .ok (.invokespecial 26, 3) := by decide +kernel
theorem d_DeltaRows_init_41 : decode b_DeltaRows_init 41 = .ok (.putfield 29, 3) := by decide +kernel
theorem d_DeltaRows_init_44 : decode b_DeltaRows_init 44 = .ok (.aload_n 0, 1) := by decide +kernel
theorem d_DeltaRows_init_45 : decode b_DeltaRows_init 45 = .ok (.new 33, 3) := by decide +kernel
theorem d_DeltaRows_init_48 : decode b_DeltaRows_init 48 = .ok (.dup, 1) := by decide +kernel
theorem d_DeltaRows_init_49 : decode b_DeltaRows_init 49 = .ok (.invokespecial 35, 3) := by decide +kernel
theorem d_DeltaRows_init_52 : decode b_DeltaRows_init 52 = .ok (.putfield 36, 3) := by decide +kernel
theorem d_DeltaRows_init_55 : decode b_DeltaRows_init 55 = .ok (.aload_n 0, 1) := by decide +kernel
theorem d_DeltaRows_init_56 : decode b_DeltaRows_init 56 = .ok (.new 33, 3) := by decide +kernel
theorem d_DeltaRows_init_59 : decode b_DeltaRows_init 59 = .ok (.dup, 1) := by decide +kernel
theorem d_DeltaRows_init_60 : decode b_DeltaRows_init 60 = .ok (.invokespecial 35, 3) := by decide +kernel
theorem d_DeltaRows_init_63 : decode b_DeltaRows_init 63 = .ok (.putfield 40, 3) := by decide +kernel
theorem d_DeltaRows_init_66 : decode b_DeltaRows_init 66 = .ok (.return_, 1) := by decide +kernel
theorem d_DeltaRows_put_0 : decode b_DeltaRows_put 0 = .ok (.aload_n 0, 1) := by decide +kernel
theorem d_DeltaRows_put_1 : decode b_DeltaRows_put 1 = .ok (.getfield 13, 3) := by decide +kernel
theorem d_DeltaRows_put_4 : decode b_DeltaRows_put 4 = .ok (.sipush 2000, 3) := by decide +kernel
theorem d_DeltaRows_put_7 : decode b_DeltaRows_put 7 = .ok (.if_icmp .lt 5, 3) := by decide +kernel
theorem d_DeltaRows_put_10 : decode b_DeltaRows_put 10 = .ok (.iconst 0, 1) := by decide +kernel
theorem d_DeltaRows_put_11 : decode b_DeltaRows_put 11 = .ok (.ireturn, 1) := by decide +kernel
theorem d_DeltaRows_put_12 : decode b_DeltaRows_put 12 = .ok (.aload_n 0, 1) := by decide +kernel
theorem d_DeltaRows_put_13 : decode b_DeltaRows_put 13 = .ok (.getfield 9, 3) := by decide +kernel
theorem d_DeltaRows_put_16 : decode b_DeltaRows_put 16 = .ok (.aload_n 0, 1) := by decide +kernel
theorem d_DeltaRows_put_17 : decode b_DeltaRows_put 17 = .ok (.getfield 13, 3) := by decide +kernel
theorem d_DeltaRows_put_20 : decode b_DeltaRows_put 20 = .ok (.lload_n 1, 1) := by decide +kernel
theorem d_DeltaRows_put_21 : decode b_DeltaRows_put 21 = .ok (.lastore, 1) := by decide +kernel
theorem d_DeltaRows_put_22 : decode b_DeltaRows_put 22 = .ok (.aload_n 0, 1) := by decide +kernel
theorem d_DeltaRows_put_23 : decode b_DeltaRows_put 23 = .ok (.dup, 1) := by decide +kernel
theorem d_DeltaRows_put_24 : decode b_DeltaRows_put 24 = .ok (.getfield 13, 3) := by decide +kernel
theorem d_DeltaRows_put_27 : decode b_DeltaRows_put 27 = .ok (.iconst 1, 1) := by decide +kernel
theorem d_DeltaRows_put_28 : decode b_DeltaRows_put 28 = .ok (.iadd, 1) := by decide +kernel
theorem d_DeltaRows_put_29 : decode b_DeltaRows_put 29 = .ok (.putfield 13, 3) := by decide +kernel
theorem d_DeltaRows_put_32 : decode b_DeltaRows_put 32 = .ok (.iconst 1, 1) := by decide +kernel
theorem d_DeltaRows_put_33 : decode b_DeltaRows_put 33 = .ok (.ireturn, 1) := by decide +kernel
theorem d_DeltaRows_clear_0 : decode b_DeltaRows_clear 0 = .ok (.aload_n 0, 1) := by decide +kernel
theorem d_DeltaRows_clear_1 : decode b_DeltaRows_clear 1 = .ok (.iconst 0, 1) := by decide +kernel
theorem d_DeltaRows_clear_2 : decode b_DeltaRows_clear 2 = .ok (.putfield 13, 3) := by decide +kernel
theorem d_DeltaRows_clear_5 : decode b_DeltaRows_clear 5 = .ok (.return_, 1) := by decide +kernel
theorem d_DeltaRows_count_0 : decode b_DeltaRows_count 0 = .ok (.aload_n 0, 1) := by decide +kernel
theorem d_DeltaRows_count_1 : decode b_DeltaRows_count 1 = .ok (.getfield 13, 3) := by decide +kernel
theorem d_DeltaRows_count_4 : decode b_DeltaRows_count 4 = .ok (.ireturn, 1) := by decide +kernel
theorem d_DeltaRows_get_0 : decode b_DeltaRows_get 0 = .ok (.iload_n 1, 1) := by decide +kernel
theorem d_DeltaRows_get_1 : decode b_DeltaRows_get 1 = .ok (.ifCond .lt 20, 3) := by decide +kernel
theorem d_DeltaRows_get_4 : decode b_DeltaRows_get 4 = .ok (.iload_n 1, 1) := by decide +kernel
theorem d_DeltaRows_get_5 : decode b_DeltaRows_get 5 = .ok (.aload_n 0, 1) := by decide +kernel
theorem d_DeltaRows_get_6 : decode b_DeltaRows_get 6 = .ok (.getfield 13, 3) := by decide +kernel
theorem d_DeltaRows_get_9 : decode b_DeltaRows_get 9 = .ok (.if_icmp .ge 12, 3) := by decide +kernel
theorem d_DeltaRows_get_12 : decode b_DeltaRows_get 12 = .ok (.aload_n 0, 1) := by decide +kernel
theorem d_DeltaRows_get_13 : decode b_DeltaRows_get 13 = .ok (.getfield 9, 3) := by decide +kernel
theorem d_DeltaRows_get_16 : decode b_DeltaRows_get 16 = .ok (.iload_n 1, 1) := by decide +kernel
theorem d_DeltaRows_get_17 : decode b_DeltaRows_get 17 = .ok (.laload, 1) := by decide +kernel
theorem d_DeltaRows_get_18 : decode b_DeltaRows_get 18 = .ok (.goto 4, 3) := by decide +kernel
theorem d_DeltaRows_get_21 : decode b_DeltaRows_get 21 = .ok (.lconst 0, 1) := by decide +kernel
theorem d_DeltaRows_get_22 : decode b_DeltaRows_get 22 = .ok (.lreturn, 1) := by decide +kernel
theorem d_DeltaRows_write_0 : decode b_DeltaRows_write 0 = .ok (.aload_n 0, 1) := by decide +kernel
theorem d_DeltaRows_write_1 : decode b_DeltaRows_write 1 = .ok (.getfield 20, 3) := by decide +kernel
theorem d_DeltaRows_write_4 : decode b_DeltaRows_write 4 = .ok (.iconst 0, 1) := by decide +kernel
theorem d_DeltaRows_write_5 : decode b_DeltaRows_write 5 = .ok (.invokevirtual 43, 3) := by decide +kernel
theorem d_DeltaRows_write_8 : decode b_DeltaRows_write 8 = .ok (.aload_n 0, 1) := by decide +kernel
theorem d_DeltaRows_write_9 : decode b_DeltaRows_write 9 = .ok (.getfield 20, 3) := by decide +kernel
theorem d_DeltaRows_write_12 : decode b_DeltaRows_write 12 = .ok (.aload_n 0, 1) := by decide +kernel
theorem d_DeltaRows_write_13 : decode b_DeltaRows_write 13 = .ok (.getfield 13, 3) := by decide +kernel
theorem d_DeltaRows_write_16 : decode b_DeltaRows_write 16 = .ok (.i2l, 1) := by decide +kernel
theorem d_DeltaRows_write_17 : decode b_DeltaRows_write 17 = .ok (.invokevirtual 47, 3) := by decide +kernel
theorem d_DeltaRows_write_20 : decode b_DeltaRows_write 20 = .ok (.aload_n 0, 1) := by decide +kernel
theorem d_DeltaRows_write_21 : decode b_DeltaRows_write 21 = .ok (.getfield 13, 3) := by decide +kernel
theorem d_DeltaRows_write_24 : decode b_DeltaRows_write 24 = .ok (.ifCond .le 19, 3) := by decide +kernel
theorem d_DeltaRows_write_27 : decode b_DeltaRows_write 27 = .ok (.aload_n 0, 1) := by decide +kernel
theorem d_DeltaRows_write_28 : decode b_DeltaRows_write 28 = .ok (.getfield 20, 3) := by decide +kernel
theorem d_DeltaRows_write_31 : decode b_DeltaRows_write 31 = .ok (.aload_n 0, 1) := by decide +kernel
theorem d_DeltaRows_write_32 : decode b_DeltaRows_write 32 = .ok (.getfield 9, 3) := by decide +kernel
theorem d_DeltaRows_write_35 : decode b_DeltaRows_write 35 = .ok (.iconst 0, 1) := by decide +kernel
theorem d_DeltaRows_write_36 : decode b_DeltaRows_write 36 = .ok (.laload, 1) := by decide +kernel
theorem d_DeltaRows_write_37 : decode b_DeltaRows_write 37 = .ok (.invokestatic 51, 3) := by decide +kernel
theorem d_DeltaRows_write_40 : decode b_DeltaRows_write 40 = .ok (.invokevirtual 47, 3) := by decide +kernel
theorem d_DeltaRows_write_43 : decode b_DeltaRows_write 43 = .ok (.aload_n 0, 1) := by decide +kernel
theorem d_DeltaRows_write_44 : decode b_DeltaRows_write 44 = .ok (.getfield 36, 3) := by decide +kernel
theorem d_DeltaRows_write_47 : decode b_DeltaRows_write 47 = .ok (.aload_n 0, 1) := by decide +kernel
theorem d_DeltaRows_write_48 : decode b_DeltaRows_write 48 = .ok (.getfield 13, 3) := by decide +kernel
theorem d_DeltaRows_write_51 : decode b_DeltaRows_write 51 = .ok (.invokestatic 55, 3) := by decide +kernel
theorem d_DeltaRows_write_54 : decode b_DeltaRows_write 54 = .ok (.putfield 59, 3) := by decide +kernel
theorem d_DeltaRows_write_57 : decode b_DeltaRows_write 57 = .ok (.iconst 0, 1) := by decide +kernel
theorem d_DeltaRows_write_58 : decode b_DeltaRows_write 58 = .ok (.istore_n 1, 1) := by decide +kernel
theorem d_DeltaRows_write_59 : decode b_DeltaRows_write 59 = .ok (.iload_n 1, 1) := by decide +kernel
theorem d_DeltaRows_write_60 : decode b_DeltaRows_write 60 = .ok (.aload_n 0, 1) := by decide +kernel
theorem d_DeltaRows_write_61 : decode b_DeltaRows_write 61 = .ok (.getfield 36, 3) := by decide +kernel
theorem d_DeltaRows_write_64 : decode b_DeltaRows_write 64 = .ok (.getfield 59, 3) := by decide +kernel
theorem d_DeltaRows_write_67 : decode b_DeltaRows_write 67 = .ok (.if_icmp .ge 14, 3) := by decide +kernel
theorem d_DeltaRows_write_70 : decode b_DeltaRows_write 70 = .ok (.aload_n 0, 1) := by decide +kernel
theorem d_DeltaRows_write_71 : decode b_DeltaRows_write 71 = .ok (.iload_n 1, 1) := by decide +kernel
theorem d_DeltaRows_write_72 : decode b_DeltaRows_write 72 = .ok (.invokevirtual 62, 3) := by decide +kernel
theorem d_DeltaRows_write_75 : decode b_DeltaRows_write 75 = .ok (.iinc 1 1, 3) := by decide +kernel
theorem d_DeltaRows_write_78 : decode b_DeltaRows_write 78 = .ok (.goto (-19), 3) := by decide +kernel
theorem d_DeltaRows_write_81 : decode b_DeltaRows_write 81 = .ok (.aload_n 0, 1) := by decide +kernel
theorem d_DeltaRows_write_82 : decode b_DeltaRows_write 82 = .ok (.getfield 20, 3) := by decide +kernel
theorem d_DeltaRows_write_85 : decode b_DeltaRows_write 85 = .ok (.getfield 65, 3) := by decide +kernel
theorem d_DeltaRows_write_88 : decode b_DeltaRows_write 88 = .ok (.ireturn, 1) := by decide +kernel
theorem d_DeltaRows_read_0 : decode b_DeltaRows_read 0 = .ok (.aload_n 0, 1) := by decide +kernel
theorem d_DeltaRows_read_1 : decode b_DeltaRows_read 1 = .ok (.getfield 29, 3) := by decide +kernel
theorem d_DeltaRows_read_4 : decode b_DeltaRows_read 4 = .ok (.aload_n 0, 1) := by decide +kernel
theorem d_DeltaRows_read_5 : decode b_DeltaRows_read 5 = .ok (.getfield 40, 3) := by decide +kernel
theorem d_DeltaRows_read_8 : decode b_DeltaRows_read 8 = .ok (.invokevirtual 68, 3) := by decide +kernel
theorem d_DeltaRows_read_11 : decode b_DeltaRows_read 11 = .ok (.aload_n 0, 1) := by decide +kernel
theorem d_DeltaRows_read_12 : decode b_DeltaRows_read 12 = .ok (.getfield 29, 3) := by decide +kernel
theorem d_DeltaRows_read_15 : decode b_DeltaRows_read 15 = .ok (.getfield 72, 3) := by decide +kernel
theorem d_DeltaRows_read_18 : decode b_DeltaRows_read 18 = .ok (.ifCond .ne 25, 3) := by decide +kernel
theorem d_DeltaRows_read_21 : decode b_DeltaRows_read 21 = .ok (.aload_n 0, 1) := by decide +kernel
theorem d_DeltaRows_read_22 : decode b_DeltaRows_read 22 = .ok (.getfield 40, 3) := by decide +kernel
theorem d_DeltaRows_read_25 : decode b_DeltaRows_read 25 = .ok (.astore_n 1, 1) := by decide +kernel
theorem d_DeltaRows_read_26 : decode b_DeltaRows_read 26 = .ok (.aload_n 0, 1) := by decide +kernel
theorem d_DeltaRows_read_27 : decode b_DeltaRows_read 27 = .ok (.aload_n 0, 1) := by decide +kernel
theorem d_DeltaRows_read_28 : decode b_DeltaRows_read 28 = .ok (.getfield 36, 3) := by decide +kernel
theorem d_DeltaRows_read_31 : decode b_DeltaRows_read 31 = .ok (.putfield 40, 3) := by decide +kernel
theorem d_DeltaRows_read_34 : decode b_DeltaRows_read 34 = .ok (.aload_n 0, 1) := by decide +kernel
theorem d_DeltaRows_read_35 : decode b_DeltaRows_read 35 = .ok (.aload_n 1, 1) := by decide +kernel
theorem d_DeltaRows_read_36 : decode b_DeltaRows_read 36 = .ok (.putfield 36, 3) := by decide +kernel
theorem d_DeltaRows_read_39 : decode b_DeltaRows_read 39 = .ok (.aload_n 0, 1) := by decide +kernel
theorem d_DeltaRows_read_40 : decode b_DeltaRows_read 40 = .ok (.invokevirtual 75, 3) := by decide +kernel
theorem d_DeltaRows_read_43 : decode b_DeltaRows_read 43 = .ok (.aload_n 0, 1) := by decide +kernel
theorem d_DeltaRows_read_44 : decode b_DeltaRows_read 44 = .ok (.getfield 29, 3) := by decide +kernel
theorem d_DeltaRows_read_47 : decode b_DeltaRows_read 47 = .ok (.getfield 72, 3) := by decide +kernel
theorem d_DeltaRows_read_50 : decode b_DeltaRows_read 50 = .ok (.ireturn, 1) := by decide +kernel
theorem d_DeltaRows_place_0 : decode b_DeltaRows_place 0 = .ok (.aload_n 0, 1) := by decide +kernel
theorem d_DeltaRows_place_1 : decode b_DeltaRows_place 1 = .ok (.getfield 29, 3) := by decide +kernel
theorem d_DeltaRows_place_4 : decode b_DeltaRows_place 4 = .ok (.getfield 78, 3) := by decide +kernel
theorem d_DeltaRows_place_7 : decode b_DeltaRows_place 7 = .ok (.ireturn, 1) := by decide +kernel
theorem d_DeltaRows_size_0 : decode b_DeltaRows_size 0 = .ok (.aload_n 0, 1) := by decide +kernel
theorem d_DeltaRows_size_1 : decode b_DeltaRows_size 1 = .ok (.getfield 20, 3) := by decide +kernel
theorem d_DeltaRows_size_4 : decode b_DeltaRows_size 4 = .ok (.getfield 65, 3) := by decide +kernel
theorem d_DeltaRows_size_7 : decode b_DeltaRows_size 7 = .ok (.ireturn, 1) := by decide +kernel
theorem d_DeltaRows_byteAt_0 : decode b_DeltaRows_byteAt 0 = .ok (.aload_n 0, 1) := by decide +kernel
theorem d_DeltaRows_byteAt_1 : decode b_DeltaRows_byteAt 1 = .ok (.getfield 20, 3) := by decide +kernel
theorem d_DeltaRows_byteAt_4 : decode b_DeltaRows_byteAt 4 = .ok (.iload_n 1, 1) := by decide +kernel
theorem d_DeltaRows_byteAt_5 : decode b_DeltaRows_byteAt 5 = .ok (.invokevirtual 81, 3) := by decide +kernel
theorem d_DeltaRows_byteAt_8 : decode b_DeltaRows_byteAt 8 = .ok (.ifCond .eq 14, 3) := by decide +kernel
theorem d_DeltaRows_byteAt_11 : decode b_DeltaRows_byteAt 11 = .ok (.aload_n 0, 1) := by decide +kernel
theorem d_DeltaRows_byteAt_12 : decode b_DeltaRows_byteAt 12 = .ok (.getfield 20, 3) := by decide +kernel
theorem d_DeltaRows_byteAt_15 : decode b_DeltaRows_byteAt 15 = .ok (.iload_n 1, 1) := by decide +kernel
theorem d_DeltaRows_byteAt_16 : decode b_DeltaRows_byteAt 16 = .ok (.invokevirtual 85, 3) := by decide +kernel
theorem d_DeltaRows_byteAt_19 : decode b_DeltaRows_byteAt 19 = .ok (.goto 4, 3) := by decide +kernel
theorem d_DeltaRows_byteAt_22 : decode b_DeltaRows_byteAt 22 = .ok (.iconst (-1), 1) := by decide +kernel
theorem d_DeltaRows_byteAt_23 : decode b_DeltaRows_byteAt 23 = .ok (.ireturn, 1) := by decide +kernel
theorem d_DeltaRows_setByte_0 : decode b_DeltaRows_setByte 0 = .ok (.aload_n 0, 1) := by decide +kernel
theorem d_DeltaRows_setByte_1 : decode b_DeltaRows_setByte 1 = .ok (.getfield 20, 3) := by decide +kernel
theorem d_DeltaRows_setByte_4 : decode b_DeltaRows_setByte 4 = .ok (.iload_n 1, 1) := by decide +kernel
theorem d_DeltaRows_setByte_5 : decode b_DeltaRows_setByte 5 = .ok (.invokevirtual 81, 3) := by decide +kernel
theorem d_DeltaRows_setByte_8 : decode b_DeltaRows_setByte 8 = .ok (.ifCond .ne 5, 3) := by decide +kernel
theorem d_DeltaRows_setByte_11 : decode b_DeltaRows_setByte 11 = .ok (.iconst 0, 1) := by decide +kernel
theorem d_DeltaRows_setByte_12 : decode b_DeltaRows_setByte 12 = .ok (.ireturn, 1) := by decide +kernel
theorem d_DeltaRows_setByte_13 : decode b_DeltaRows_setByte 13 = .ok (.aload_n 0, 1) := by decide +kernel
theorem d_DeltaRows_setByte_14 : decode b_DeltaRows_setByte 14 = .ok (.getfield 20, 3) := by decide +kernel
theorem d_DeltaRows_setByte_17 : decode b_DeltaRows_setByte 17 = .ok (.iload_n 1, 1) := by decide +kernel
theorem d_DeltaRows_setByte_18 : decode b_DeltaRows_setByte 18 = .ok (.iload_n 2, 1) := by decide +kernel
theorem d_DeltaRows_setByte_19 : decode b_DeltaRows_setByte 19 = .ok (.invokevirtual 88, 3) := by decide +kernel
theorem d_DeltaRows_setByte_22 : decode b_DeltaRows_setByte 22 = .ok (.iconst 1, 1) := by decide +kernel
theorem d_DeltaRows_setByte_23 : decode b_DeltaRows_setByte 23 = .ok (.ireturn, 1) := by decide +kernel
theorem d_DeltaRows_append_0 : decode b_DeltaRows_append 0 = .ok (.aload_n 0, 1) := by decide +kernel
theorem d_DeltaRows_append_1 : decode b_DeltaRows_append 1 = .ok (.getfield 20, 3) := by decide +kernel
theorem d_DeltaRows_append_4 : decode b_DeltaRows_append 4 = .ok (.iload_n 1, 1) := by decide +kernel
theorem d_DeltaRows_append_5 : decode b_DeltaRows_append 5 = .ok (.invokevirtual 92, 3) := by decide +kernel
theorem d_DeltaRows_append_8 : decode b_DeltaRows_append 8 = .ok (.ireturn, 1) := by decide +kernel
theorem d_DeltaRows_cut_0 : decode b_DeltaRows_cut 0 = .ok (.iload_n 1, 1) := by decide +kernel
theorem d_DeltaRows_cut_1 : decode b_DeltaRows_cut 1 = .ok (.ifCond .lt 14, 3) := by decide +kernel
theorem d_DeltaRows_cut_4 : decode b_DeltaRows_cut 4 = .ok (.iload_n 1, 1) := by decide +kernel
theorem d_DeltaRows_cut_5 : decode b_DeltaRows_cut 5 = .ok (.aload_n 0, 1) := by decide +kernel
theorem d_DeltaRows_cut_6 : decode b_DeltaRows_cut 6 = .ok (.getfield 20, 3) := by decide +kernel
theorem d_DeltaRows_cut_9 : decode b_DeltaRows_cut 9 = .ok (.getfield 65, 3) := by decide +kernel
theorem d_DeltaRows_cut_12 : decode b_DeltaRows_cut 12 = .ok (.if_icmp .le 5, 3) := by decide +kernel
theorem d_DeltaRows_cut_15 : decode b_DeltaRows_cut 15 = .ok (.iconst 0, 1) := by decide +kernel
theorem d_DeltaRows_cut_16 : decode b_DeltaRows_cut 16 = .ok (.ireturn, 1) := by decide +kernel
theorem d_DeltaRows_cut_17 : decode b_DeltaRows_cut 17 = .ok (.aload_n 0, 1) := by decide +kernel
theorem d_DeltaRows_cut_18 : decode b_DeltaRows_cut 18 = .ok (.getfield 20, 3) := by decide +kernel
theorem d_DeltaRows_cut_21 : decode b_DeltaRows_cut 21 = .ok (.iload_n 1, 1) := by decide +kernel
theorem d_DeltaRows_cut_22 : decode b_DeltaRows_cut 22 = .ok (.invokevirtual 43, 3) := by decide +kernel
theorem d_DeltaRows_cut_25 : decode b_DeltaRows_cut 25 = .ok (.iconst 1, 1) := by decide +kernel
theorem d_DeltaRows_cut_26 : decode b_DeltaRows_cut 26 = .ok (.ireturn, 1) := by decide +kernel
theorem d_DeltaRows_blocks_0 : decode b_DeltaRows_blocks 0 = .ok (.aload_n 0, 1) := by decide +kernel
theorem d_DeltaRows_blocks_1 : decode b_DeltaRows_blocks 1 = .ok (.getfield 36, 3) := by decide +kernel
theorem d_DeltaRows_blocks_4 : decode b_DeltaRows_blocks 4 = .ok (.getfield 59, 3) := by decide +kernel
theorem d_DeltaRows_blocks_7 : decode b_DeltaRows_blocks 7 = .ok (.ireturn, 1) := by decide +kernel
theorem d_DeltaRows_least_0 : decode b_DeltaRows_least 0 = .ok (.aload_n 0, 1) := by decide +kernel
theorem d_DeltaRows_least_1 : decode b_DeltaRows_least 1 = .ok (.getfield 36, 3) := by decide +kernel
theorem d_DeltaRows_least_4 : decode b_DeltaRows_least 4 = .ok (.iload_n 1, 1) := by decide +kernel
theorem d_DeltaRows_least_5 : decode b_DeltaRows_least 5 = .ok (.invokevirtual 95, 3) := by decide +kernel
theorem d_DeltaRows_least_8 : decode b_DeltaRows_least 8 = .ok (.ifCond .eq 15, 3) := by decide +kernel
theorem d_DeltaRows_least_11 : decode b_DeltaRows_least 11 = .ok (.aload_n 0, 1) := by decide +kernel
theorem d_DeltaRows_least_12 : decode b_DeltaRows_least 12 = .ok (.getfield 36, 3) := by decide +kernel
theorem d_DeltaRows_least_15 : decode b_DeltaRows_least 15 = .ok (.getfield 98, 3) := by decide +kernel
theorem d_DeltaRows_least_18 : decode b_DeltaRows_least 18 = .ok (.iload_n 1, 1) := by decide +kernel
theorem d_DeltaRows_least_19 : decode b_DeltaRows_least 19 = .ok (.laload, 1) := by decide +kernel
theorem d_DeltaRows_least_20 : decode b_DeltaRows_least 20 = .ok (.goto 4, 3) := by decide +kernel
theorem d_DeltaRows_least_23 : decode b_DeltaRows_least 23 = .ok (.lconst 0, 1) := by decide +kernel
theorem d_DeltaRows_least_24 : decode b_DeltaRows_least 24 = .ok (.lreturn, 1) := by decide +kernel
theorem d_DeltaRows_width_0 : decode b_DeltaRows_width 0 = .ok (.aload_n 0, 1) := by decide +kernel
theorem d_DeltaRows_width_1 : decode b_DeltaRows_width 1 = .ok (.getfield 36, 3) := by decide +kernel
theorem d_DeltaRows_width_4 : decode b_DeltaRows_width 4 = .ok (.iload_n 1, 1) := by decide +kernel
theorem d_DeltaRows_width_5 : decode b_DeltaRows_width 5 = .ok (.iload_n 2, 1) := by decide +kernel
theorem d_DeltaRows_width_6 : decode b_DeltaRows_width 6 = .ok (.invokevirtual 101, 3) := by decide +kernel
theorem d_DeltaRows_width_9 : decode b_DeltaRows_width 9 = .ok (.ifCond .eq 19, 3) := by decide +kernel
theorem d_DeltaRows_width_12 : decode b_DeltaRows_width 12 = .ok (.aload_n 0, 1) := by decide +kernel
theorem d_DeltaRows_width_13 : decode b_DeltaRows_width 13 = .ok (.getfield 36, 3) := by decide +kernel
theorem d_DeltaRows_width_16 : decode b_DeltaRows_width 16 = .ok (.getfield 105, 3) := by decide +kernel
theorem d_DeltaRows_width_19 : decode b_DeltaRows_width 19 = .ok (.iload_n 1, 1) := by decide +kernel
theorem d_DeltaRows_width_20 : decode b_DeltaRows_width 20 = .ok (.iconst 4, 1) := by decide +kernel
theorem d_DeltaRows_width_21 : decode b_DeltaRows_width 21 = .ok (.imul, 1) := by decide +kernel
theorem d_DeltaRows_width_22 : decode b_DeltaRows_width 22 = .ok (.iload_n 2, 1) := by decide +kernel
theorem d_DeltaRows_width_23 : decode b_DeltaRows_width 23 = .ok (.iadd, 1) := by decide +kernel
theorem d_DeltaRows_width_24 : decode b_DeltaRows_width 24 = .ok (.iaload, 1) := by decide +kernel
theorem d_DeltaRows_width_25 : decode b_DeltaRows_width 25 = .ok (.goto 4, 3) := by decide +kernel
theorem d_DeltaRows_width_28 : decode b_DeltaRows_width 28 = .ok (.iconst (-1), 1) := by decide +kernel
theorem d_DeltaRows_width_29 : decode b_DeltaRows_width 29 = .ok (.ireturn, 1) := by decide +kernel
theorem d_DeltaRows_start_0 : decode b_DeltaRows_start 0 = .ok (.aload_n 0, 1) := by decide +kernel
theorem d_DeltaRows_start_1 : decode b_DeltaRows_start 1 = .ok (.getfield 36, 3) := by decide +kernel
theorem d_DeltaRows_start_4 : decode b_DeltaRows_start 4 = .ok (.iload_n 1, 1) := by decide +kernel
theorem d_DeltaRows_start_5 : decode b_DeltaRows_start 5 = .ok (.iload_n 2, 1) := by decide +kernel
theorem d_DeltaRows_start_6 : decode b_DeltaRows_start 6 = .ok (.invokevirtual 101, 3) := by decide +kernel
theorem d_DeltaRows_start_9 : decode b_DeltaRows_start 9 = .ok (.ifCond .eq 19, 3) := by decide +kernel
theorem d_DeltaRows_start_12 : decode b_DeltaRows_start 12 = .ok (.aload_n 0, 1) := by decide +kernel
theorem d_DeltaRows_start_13 : decode b_DeltaRows_start 13 = .ok (.getfield 36, 3) := by decide +kernel
theorem d_DeltaRows_start_16 : decode b_DeltaRows_start 16 = .ok (.getfield 109, 3) := by decide +kernel
theorem d_DeltaRows_start_19 : decode b_DeltaRows_start 19 = .ok (.iload_n 1, 1) := by decide +kernel
theorem d_DeltaRows_start_20 : decode b_DeltaRows_start 20 = .ok (.iconst 4, 1) := by decide +kernel
theorem d_DeltaRows_start_21 : decode b_DeltaRows_start 21 = .ok (.imul, 1) := by decide +kernel
theorem d_DeltaRows_start_22 : decode b_DeltaRows_start 22 = .ok (.iload_n 2, 1) := by decide +kernel
theorem d_DeltaRows_start_23 : decode b_DeltaRows_start 23 = .ok (.iadd, 1) := by decide +kernel
theorem d_DeltaRows_start_24 : decode b_DeltaRows_start 24 = .ok (.iaload, 1) := by decide +kernel
theorem d_DeltaRows_start_25 : decode b_DeltaRows_start 25 = .ok (.goto 4, 3) := by decide +kernel
theorem d_DeltaRows_start_28 : decode b_DeltaRows_start 28 = .ok (.iconst (-1), 1) := by decide +kernel
theorem d_DeltaRows_start_29 : decode b_DeltaRows_start 29 = .ok (.ireturn, 1) := by decide +kernel
theorem d_DeltaRows_writeBlock_0 : decode b_DeltaRows_writeBlock 0 = .ok (.aload_n 0, 1) := by decide +kernel
theorem d_DeltaRows_writeBlock_1 : decode b_DeltaRows_writeBlock 1 = .ok (.iload_n 1, 1) := by decide +kernel
theorem d_DeltaRows_writeBlock_2 : decode b_DeltaRows_writeBlock 2 = .ok (.invokevirtual 112, 3) := by decide +kernel
