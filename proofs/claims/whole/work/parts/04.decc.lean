theorem d_Scan_init_0 : decode b_Scan_init 0 = .ok (.aload_n 0, 1) := by decide +kernel
theorem d_Scan_init_1 : decode b_Scan_init 1 = .ok (.invokespecial 3, 3) := by decide +kernel
theorem d_Scan_init_4 : decode b_Scan_init 4 = .ok (.aload_n 0, 1) := by decide +kernel
theorem d_Scan_init_5 : decode b_Scan_init 5 = .ok (.aload_n 1, 1) := by decide +kernel
theorem d_Scan_init_6 : decode b_Scan_init 6 = .ok (.putfield 9, 3) := by decide +kernel
theorem d_Scan_init_9 : decode b_Scan_init 9 = .ok (.aload_n 0, 1) := by decide +kernel
theorem d_Scan_init_10 : decode b_Scan_init 10 = .ok (.iconst 0, 1) := by decide +kernel
theorem d_Scan_init_11 : decode b_Scan_init 11 = .ok (.putfield 15, 3) := by decide +kernel
theorem d_Scan_init_14 : decode b_Scan_init 14 = .ok (.aload_n 0, 1) := by decide +kernel
theorem d_Scan_init_15 : decode b_Scan_init 15 = .ok (.iconst 0, 1) := by decide +kernel
theorem d_Scan_init_16 : decode b_Scan_init 16 = .ok (.putfield 19, 3) := by decide +kernel
theorem d_Scan_init_19 : decode b_Scan_init 19 = .ok (.aload_n 0, 1) := by decide +kernel
theorem d_Scan_init_20 : decode b_Scan_init 20 = .ok (.iconst (-1), 1) := by decide +kernel
theorem d_Scan_init_21 : decode b_Scan_init 21 = .ok (.putfield 22, 3) := by decide +kernel
theorem d_Scan_init_24 : decode b_Scan_init 24 = .ok (.aload_n 0, 1) := by decide +kernel
theorem d_Scan_init_25 : decode b_Scan_init 25 = .ok (.iconst 0, 1) := by decide +kernel
theorem d_Scan_init_26 : decode b_Scan_init 26 = .ok (.putfield 25, 3) := by decide +kernel
theorem d_Scan_init_29 : decode b_Scan_init 29 = .ok (.aload_n 0, 1) := by decide +kernel
theorem d_Scan_init_30 : decode b_Scan_init 30 = .ok (.lconst 0, 1) := by decide +kernel
theorem d_Scan_init_31 : decode b_Scan_init 31 = .ok (.putfield 28, 3) := by decide +kernel
theorem d_Scan_init_34 : decode b_Scan_init 34 = .ok (.return_, 1) := by decide +kernel
theorem d_Scan_lookThrough_0 : decode b_Scan_lookThrough 0 = .ok (.aload_n 0, 1) := by decide +kernel
theorem d_Scan_lookThrough_1 : decode b_Scan_lookThrough 1 = .ok (.iconst 0, 1) := by decide +kernel
theorem d_Scan_lookThrough_2 : decode b_Scan_lookThrough 2 = .ok (.putfield 15, 3) := by decide +kernel
theorem d_Scan_lookThrough_5 : decode b_Scan_lookThrough 5 = .ok (.aload_n 0, 1) := by decide +kernel
theorem d_Scan_lookThrough_6 : decode b_Scan_lookThrough 6 = .ok (.iconst 0, 1) := by decide +kernel
theorem d_Scan_lookThrough_7 : decode b_Scan_lookThrough 7 = .ok (.putfield 19, 3) := by decide +kernel
theorem d_Scan_lookThrough_10 : decode b_Scan_lookThrough 10 = .ok (.aload_n 0, 1) := by decide +kernel
theorem d_Scan_lookThrough_11 : decode b_Scan_lookThrough 11 = .ok (.iconst (-1), 1) := by decide +kernel
theorem d_Scan_lookThrough_12 : decode b_Scan_lookThrough 12 = .ok (.putfield 22, 3) := by decide +kernel
theorem d_Scan_lookThrough_15 : decode b_Scan_lookThrough 15 = .ok (.aload_n 0, 1) := by decide +kernel
theorem d_Scan_lookThrough_16 : decode b_Scan_lookThrough 16 = .ok (.invokevirtual 32, 3) := by decide +kernel
theorem d_Scan_lookThrough_19 : decode b_Scan_lookThrough 19 = .ok (.aload_n 1, 1) := by decide +kernel
theorem d_Scan_lookThrough_20 : decode b_Scan_lookThrough 20 = .ok (.aload_n 0, 1) := by decide +kernel
theorem d_Scan_lookThrough_21 : decode b_Scan_lookThrough 21 = .ok (.getfield 25, 3) := by decide +kernel
theorem d_Scan_lookThrough_24 : decode b_Scan_lookThrough 24 = .ok (.invokestatic 35, 3) := by decide +kernel
theorem d_Scan_lookThrough_27 : decode b_Scan_lookThrough 27 = .ok (.putfield 39, 3) := by decide +kernel
theorem d_Scan_lookThrough_30 : decode b_Scan_lookThrough 30 = .ok (.iconst 0, 1) := by decide +kernel
theorem d_Scan_lookThrough_31 : decode b_Scan_lookThrough 31 = .ok (.istore_n 2, 1) := by decide +kernel
theorem d_Scan_lookThrough_32 : decode b_Scan_lookThrough 32 = .ok (.iload_n 2, 1) := by decide +kernel
theorem d_Scan_lookThrough_33 : decode b_Scan_lookThrough 33 = .ok (.aload_n 1, 1) := by decide +kernel
theorem d_Scan_lookThrough_34 : decode b_Scan_lookThrough 34 = .ok (.getfield 39, 3) := by decide +kernel
theorem d_Scan_lookThrough_37 : decode b_Scan_lookThrough 37 = .ok (.if_icmp .ge 22, 3) := by decide +kernel
theorem d_Scan_lookThrough_40 : decode b_Scan_lookThrough 40 = .ok (.aload_n 0, 1) := by decide +kernel
theorem d_Scan_lookThrough_41 : decode b_Scan_lookThrough 41 = .ok (.invokevirtual 44, 3) := by decide +kernel
theorem d_Scan_lookThrough_44 : decode b_Scan_lookThrough 44 = .ok (.ifCond .eq 15, 3) := by decide +kernel
theorem d_Scan_lookThrough_47 : decode b_Scan_lookThrough 47 = .ok (.aload_n 0, 1) := by decide +kernel
theorem d_Scan_lookThrough_48 : decode b_Scan_lookThrough 48 = .ok (.aload_n 1, 1) := by decide +kernel
theorem d_Scan_lookThrough_49 : decode b_Scan_lookThrough 49 = .ok (.iload_n 2, 1) := by decide +kernel
theorem d_Scan_lookThrough_50 : decode b_Scan_lookThrough 50 = .ok (.invokevirtual 48, 3) := by decide +kernel
theorem d_Scan_lookThrough_53 : decode b_Scan_lookThrough 53 = .ok (.iinc 2 1, 3) := by decide +kernel
theorem d_Scan_lookThrough_56 : decode b_Scan_lookThrough 56 = .ok (.goto (-24), 3) := by decide +kernel
theorem d_Scan_lookThrough_59 : decode b_Scan_lookThrough 59 = .ok (.aload_n 0, 1) := by decide +kernel
theorem d_Scan_lookThrough_60 : decode b_Scan_lookThrough 60 = .ok (.invokevirtual 44, 3) := by decide +kernel
theorem d_Scan_lookThrough_63 : decode b_Scan_lookThrough 63 = .ok (.ifCond .eq 27, 3) := by decide +kernel
theorem d_Scan_lookThrough_66 : decode b_Scan_lookThrough 66 = .ok (.aload_n 0, 1) := by decide +kernel
theorem d_Scan_lookThrough_67 : decode b_Scan_lookThrough 67 = .ok (.getfield 15, 3) := by decide +kernel
theorem d_Scan_lookThrough_70 : decode b_Scan_lookThrough 70 = .ok (.aload_n 0, 1) := by decide +kernel
theorem d_Scan_lookThrough_71 : decode b_Scan_lookThrough 71 = .ok (.getfield 9, 3) := by decide +kernel
theorem d_Scan_lookThrough_74 : decode b_Scan_lookThrough 74 = .ok (.getfield 52, 3) := by decide +kernel
theorem d_Scan_lookThrough_77 : decode b_Scan_lookThrough 77 = .ok (.if_icmp .ge 13, 3) := by decide +kernel
theorem d_Scan_lookThrough_80 : decode b_Scan_lookThrough 80 = .ok (.aload_n 0, 1) := by decide +kernel
theorem d_Scan_lookThrough_81 : decode b_Scan_lookThrough 81 = .ok (.bipush 6, 2) := by decide +kernel
theorem d_Scan_lookThrough_83 : decode b_Scan_lookThrough 83 = .ok (.aload_n 0, 1) := by decide +kernel
theorem d_Scan_lookThrough_84 : decode b_Scan_lookThrough 84 = .ok (.getfield 15, 3) := by decide +kernel
theorem d_Scan_lookThrough_87 : decode b_Scan_lookThrough 87 = .ok (.invokevirtual 57, 3) := by decide +kernel
theorem d_Scan_lookThrough_90 : decode b_Scan_lookThrough 90 = .ok (.return_, 1) := by decide +kernel
theorem d_Scan_lookAtHead_0 : decode b_Scan_lookAtHead 0 = .ok (.aload_n 0, 1) := by decide +kernel
theorem d_Scan_lookAtHead_1 : decode b_Scan_lookAtHead 1 = .ok (.iconst 0, 1) := by decide +kernel
theorem d_Scan_lookAtHead_2 : decode b_Scan_lookAtHead 2 = .ok (.putfield 25, 3) := by decide +kernel
theorem d_Scan_lookAtHead_5 : decode b_Scan_lookAtHead 5 = .ok (.aload_n 0, 1) := by decide +kernel
theorem d_Scan_lookAtHead_6 : decode b_Scan_lookAtHead 6 = .ok (.lconst 0, 1) := by decide +kernel
theorem d_Scan_lookAtHead_7 : decode b_Scan_lookAtHead 7 = .ok (.putfield 28, 3) := by decide +kernel
theorem d_Scan_lookAtHead_10 : decode b_Scan_lookAtHead 10 = .ok (.aload_n 0, 1) := by decide +kernel
theorem d_Scan_lookAtHead_11 : decode b_Scan_lookAtHead 11 = .ok (.invokevirtual 61, 3) := by decide +kernel
theorem d_Scan_lookAtHead_14 : decode b_Scan_lookAtHead 14 = .ok (.lstore_n 1, 1) := by decide +kernel
theorem d_Scan_lookAtHead_15 : decode b_Scan_lookAtHead 15 = .ok (.aload_n 0, 1) := by decide +kernel
theorem d_Scan_lookAtHead_16 : decode b_Scan_lookAtHead 16 = .ok (.invokevirtual 44, 3) := by decide +kernel
theorem d_Scan_lookAtHead_19 : decode b_Scan_lookAtHead 19 = .ok (.ifCond .ne 4, 3) := by decide +kernel
theorem d_Scan_lookAtHead_22 : decode b_Scan_lookAtHead 22 = .ok (.return_, 1) := by decide +kernel
theorem d_Scan_lookAtHead_23 : decode b_Scan_lookAtHead 23 = .ok (.lload_n 1, 1) := by decide +kernel
theorem d_Scan_lookAtHead_24 : decode b_Scan_lookAtHead 24 = .ok (.lconst 0, 1) := by decide +kernel
theorem d_Scan_lookAtHead_25 : decode b_Scan_lookAtHead 25 = .ok (.lcmp, 1) := by decide +kernel
theorem d_Scan_lookAtHead_26 : decode b_Scan_lookAtHead 26 = .ok (.ifCond .lt 11, 3) := by decide +kernel
theorem d_Scan_lookAtHead_29 : decode b_Scan_lookAtHead 29 = .ok (.lload_n 1, 1) := by decide +kernel
theorem d_Scan_lookAtHead_30 : decode b_Scan_lookAtHead 30 = .ok (.ldc2_w 65, 3) := by decide +kernel
theorem d_Scan_lookAtHead_33 : decode b_Scan_lookAtHead 33 = .ok (.lcmp, 1) := by decide +kernel
theorem d_Scan_lookAtHead_34 : decode b_Scan_lookAtHead 34 = .ok (.ifCond .le 10, 3) := by decide +kernel
theorem d_Scan_lookAtHead_37 : decode b_Scan_lookAtHead 37 = .ok (.aload_n 0, 1) := by decide +kernel
theorem d_Scan_lookAtHead_38 : decode b_Scan_lookAtHead 38 = .ok (.iconst 4, 1) := by decide +kernel
theorem d_Scan_lookAtHead_39 : decode b_Scan_lookAtHead 39 = .ok (.iconst 0, 1) := by decide +kernel
theorem d_Scan_lookAtHead_40 : decode b_Scan_lookAtHead 40 = .ok (.invokevirtual 57, 3) := by decide +kernel
theorem d_Scan_lookAtHead_43 : decode b_Scan_lookAtHead 43 = .ok (.return_, 1) := by decide +kernel
theorem d_Scan_lookAtHead_44 : decode b_Scan_lookAtHead 44 = .ok (.aload_n 0, 1) := by decide +kernel
theorem d_Scan_lookAtHead_45 : decode b_Scan_lookAtHead 45 = .ok (.lload_n 1, 1) := by decide +kernel
theorem d_Scan_lookAtHead_46 : decode b_Scan_lookAtHead 46 = .ok (.l2i, 1) := by decide +kernel
theorem d_Scan_lookAtHead_47 : decode b_Scan_lookAtHead 47 = .ok (.putfield 25, 3) := by decide +kernel
theorem d_Scan_lookAtHead_50 : decode b_Scan_lookAtHead 50 = .ok (.aload_n 0, 1) := by decide +kernel
theorem d_Scan_lookAtHead_51 : decode b_Scan_lookAtHead 51 = .ok (.getfield 25, 3) := by decide +kernel
theorem d_Scan_lookAtHead_54 : decode b_Scan_lookAtHead 54 = .ok (.ifCond .le 14, 3) := by decide +kernel
theorem d_Scan_lookAtHead_57 : decode b_Scan_lookAtHead 57 = .ok (.aload_n 0, 1) := by decide +kernel
theorem d_Scan_lookAtHead_58 : decode b_Scan_lookAtHead 58 = .ok (.aload_n 0, 1) := by decide +kernel
theorem d_Scan_lookAtHead_59 : decode b_Scan_lookAtHead 59 = .ok (.invokevirtual 61, 3) := by decide +kernel
theorem d_Scan_lookAtHead_62 : decode b_Scan_lookAtHead 62 = .ok (.invokestatic 67, 3) := by decide +kernel
theorem d_Scan_lookAtHead_65 : decode b_Scan_lookAtHead 65 = .ok (.putfield 28, 3) := by decide +kernel
theorem d_Scan_lookAtHead_68 : decode b_Scan_lookAtHead 68 = .ok (.return_, 1) := by decide +kernel
theorem d_Scan_lookAtBlock_0 : decode b_Scan_lookAtBlock 0 = .ok (.aload_n 1, 1) := by decide +kernel
theorem d_Scan_lookAtBlock_1 : decode b_Scan_lookAtBlock 1 = .ok (.getfield 71, 3) := by decide +kernel
theorem d_Scan_lookAtBlock_4 : decode b_Scan_lookAtBlock 4 = .ok (.iload_n 2, 1) := by decide +kernel
theorem d_Scan_lookAtBlock_5 : decode b_Scan_lookAtBlock 5 = .ok (.aload_n 0, 1) := by decide +kernel
theorem d_Scan_lookAtBlock_6 : decode b_Scan_lookAtBlock 6 = .ok (.invokevirtual 61, 3) := by decide +kernel
theorem d_Scan_lookAtBlock_9 : decode b_Scan_lookAtBlock 9 = .ok (.invokestatic 67, 3) := by decide +kernel
theorem d_Scan_lookAtBlock_12 : decode b_Scan_lookAtBlock 12 = .ok (.lastore, 1) := by decide +kernel
theorem d_Scan_lookAtBlock_13 : decode b_Scan_lookAtBlock 13 = .ok (.iconst 0, 1) := by decide +kernel
theorem d_Scan_lookAtBlock_14 : decode b_Scan_lookAtBlock 14 = .ok (.istore_n 3, 1) := by decide +kernel
theorem d_Scan_lookAtBlock_15 : decode b_Scan_lookAtBlock 15 = .ok (.iload_n 3, 1) := by decide +kernel
theorem d_Scan_lookAtBlock_16 : decode b_Scan_lookAtBlock 16 = .ok (.iconst 4, 1) := by decide +kernel
theorem d_Scan_lookAtBlock_17 : decode b_Scan_lookAtBlock 17 = .ok (.if_icmp .ge 36, 3) := by decide +kernel
theorem d_Scan_lookAtBlock_20 : decode b_Scan_lookAtBlock 20 = .ok (.aload_n 0, 1) := by decide +kernel
theorem d_Scan_lookAtBlock_21 : decode b_Scan_lookAtBlock 21 = .ok (.invokevirtual 44, 3) := by decide +kernel
theorem d_Scan_lookAtBlock_24 : decode b_Scan_lookAtBlock 24 = .ok (.ifCond .eq 29, 3) := by decide +kernel
theorem d_Scan_lookAtBlock_27 : decode b_Scan_lookAtBlock 27 = .ok (.aload_n 1, 1) := by decide +kernel
theorem d_Scan_lookAtBlock_28 : decode b_Scan_lookAtBlock 28 = .ok (.getfield 75, 3) := by decide +kernel
theorem d_Scan_lookAtBlock_31 : decode b_Scan_lookAtBlock 31 = .ok (.iload_n 2, 1) := by decide +kernel
theorem d_Scan_lookAtBlock_32 : decode b_Scan_lookAtBlock 32 = .ok (.iconst 4, 1) := by decide +kernel
theorem d_Scan_lookAtBlock_33 : decode b_Scan_lookAtBlock 33 = .ok (.imul, 1) := by decide +kernel
theorem d_Scan_lookAtBlock_34 : decode b_Scan_lookAtBlock 34 = .ok (.iload_n 3, 1) := by decide +kernel
theorem d_Scan_lookAtBlock_35 : decode b_Scan_lookAtBlock 35 = .ok (.iadd, 1) := by decide +kernel
theorem d_Scan_lookAtBlock_36 : decode b_Scan_lookAtBlock 36 = .ok (.aload_n 0, 1) := by decide +kernel
theorem d_Scan_lookAtBlock_37 : decode b_Scan_lookAtBlock 37 = .ok (.aload_n 0, 1) := by decide +kernel
theorem d_Scan_lookAtBlock_38 : decode b_Scan_lookAtBlock 38 = .ok (.iload_n 2, 1) := by decide +kernel
theorem d_Scan_lookAtBlock_39 : decode b_Scan_lookAtBlock 39 = .ok (.iload_n 3, 1) := by decide +kernel
theorem d_Scan_lookAtBlock_40 : decode b_Scan_lookAtBlock 40 = .ok (.invokevirtual 79, 3) := by decide +kernel
theorem d_Scan_lookAtBlock_43 : decode b_Scan_lookAtBlock 43 = .ok (.invokevirtual 83, 3) := by decide +kernel
theorem d_Scan_lookAtBlock_46 : decode b_Scan_lookAtBlock 46 = .ok (.iastore, 1) := by decide +kernel
theorem d_Scan_lookAtBlock_47 : decode b_Scan_lookAtBlock 47 = .ok (.iinc 3 1, 3) := by decide +kernel
theorem d_Scan_lookAtBlock_50 : decode b_Scan_lookAtBlock 50 = .ok (.goto (-35), 3) := by decide +kernel
theorem d_Scan_lookAtBlock_53 : decode b_Scan_lookAtBlock 53 = .ok (.iconst 0, 1) := by decide +kernel
theorem d_Scan_lookAtBlock_54 : decode b_Scan_lookAtBlock 54 = .ok (.istore_n 3, 1) := by decide +kernel
theorem d_Scan_lookAtBlock_55 : decode b_Scan_lookAtBlock 55 = .ok (.iload_n 3, 1) := by decide +kernel
theorem d_Scan_lookAtBlock_56 : decode b_Scan_lookAtBlock 56 = .ok (.iconst 4, 1) := by decide +kernel
theorem d_Scan_lookAtBlock_57 : decode b_Scan_lookAtBlock 57 = .ok (.if_icmp .ge 50, 3) := by decide +kernel
theorem d_Scan_lookAtBlock_60 : decode b_Scan_lookAtBlock 60 = .ok (.aload_n 0, 1) := by decide +kernel
theorem d_Scan_lookAtBlock_61 : decode b_Scan_lookAtBlock 61 = .ok (.invokevirtual 44, 3) := by decide +kernel
theorem d_Scan_lookAtBlock_64 : decode b_Scan_lookAtBlock 64 = .ok (.ifCond .eq 43, 3) := by decide +kernel
theorem d_Scan_lookAtBlock_67 : decode b_Scan_lookAtBlock 67 = .ok (.aload_n 1, 1) := by decide +kernel
theorem d_Scan_lookAtBlock_68 : decode b_Scan_lookAtBlock 68 = .ok (.getfield 86, 3) := by decide +kernel
theorem d_Scan_lookAtBlock_71 : decode b_Scan_lookAtBlock 71 = .ok (.iload_n 2, 1) := by decide +kernel
theorem d_Scan_lookAtBlock_72 : decode b_Scan_lookAtBlock 72 = .ok (.iconst 4, 1) := by decide +kernel
theorem d_Scan_lookAtBlock_73 : decode b_Scan_lookAtBlock 73 = .ok (.imul, 1) := by decide +kernel
theorem d_Scan_lookAtBlock_74 : decode b_Scan_lookAtBlock 74 = .ok (.iload_n 3, 1) := by decide +kernel
theorem d_Scan_lookAtBlock_75 : decode b_Scan_lookAtBlock 75 = .ok (.iadd, 1) := by decide +kernel
theorem d_Scan_lookAtBlock_76 : decode b_Scan_lookAtBlock 76 = .ok (.aload_n 0, 1) := by decide +kernel
theorem d_Scan_lookAtBlock_77 : decode b_Scan_lookAtBlock 77 = .ok (.getfield 15, 3) := by decide +kernel
theorem d_Scan_lookAtBlock_80 : decode b_Scan_lookAtBlock 80 = .ok (.iastore, 1) := by decide +kernel
theorem d_Scan_lookAtBlock_81 : decode b_Scan_lookAtBlock 81 = .ok (.aload_n 0, 1) := by decide +kernel
theorem d_Scan_lookAtBlock_82 : decode b_Scan_lookAtBlock 82 = .ok (.aload_n 1, 1) := by decide +kernel
theorem d_Scan_lookAtBlock_83 : decode b_Scan_lookAtBlock 83 = .ok (.getfield 75, 3) := by decide +kernel
theorem d_Scan_lookAtBlock_86 : decode b_Scan_lookAtBlock 86 = .ok (.iload_n 2, 1) := by decide +kernel
theorem d_Scan_lookAtBlock_87 : decode b_Scan_lookAtBlock 87 = .ok (.iconst 4, 1) := by decide +kernel
theorem d_Scan_lookAtBlock_88 : decode b_Scan_lookAtBlock 88 = .ok (.imul, 1) := by decide +kernel
theorem d_Scan_lookAtBlock_89 : decode b_Scan_lookAtBlock 89 = .ok (.iload_n 3, 1) := by decide +kernel
theorem d_Scan_lookAtBlock_90 : decode b_Scan_lookAtBlock 90 = .ok (.iadd, 1) := by decide +kernel
theorem d_Scan_lookAtBlock_91 : decode b_Scan_lookAtBlock 91 = .ok (.iaload, 1) := by decide +kernel
theorem d_Scan_lookAtBlock_92 : decode b_Scan_lookAtBlock 92 = .ok (.aload_n 0, 1) := by decide +kernel
theorem d_Scan_lookAtBlock_93 : decode b_Scan_lookAtBlock 93 = .ok (.iload_n 2, 1) := by decide +kernel
theorem d_Scan_lookAtBlock_94 : decode b_Scan_lookAtBlock 94 = .ok (.iload_n 3, 1) := by decide +kernel
theorem d_Scan_lookAtBlock_95 : decode b_Scan_lookAtBlock 95 = .ok (.invokevirtual 79, 3) := by decide +kernel
theorem d_Scan_lookAtBlock_98 : decode b_Scan_lookAtBlock 98 = .ok (.invokevirtual 89, 3) := by decide +kernel
theorem d_Scan_lookAtBlock_101 : decode b_Scan_lookAtBlock 101 = .ok (.iinc 3 1, 3) := by decide +kernel
theorem d_Scan_lookAtBlock_104 : decode b_Scan_lookAtBlock 104 = .ok (.goto (-49), 3) := by decide +kernel
theorem d_Scan_lookAtBlock_107 : decode b_Scan_lookAtBlock 107 = .ok (.return_, 1) := by decide +kernel
theorem d_Scan_longsOf_0 : decode b_Scan_longsOf 0 = .ok (.iload_n 1, 1) := by decide +kernel
theorem d_Scan_longsOf_1 : decode b_Scan_longsOf 1 = .ok (.iload_n 2, 1) := by decide +kernel
theorem d_Scan_longsOf_2 : decode b_Scan_longsOf 2 = .ok (.iconst 1, 1) := by decide +kernel
theorem d_Scan_longsOf_3 : decode b_Scan_longsOf 3 = .ok (.iadd, 1) := by decide +kernel
theorem d_Scan_longsOf_4 : decode b_Scan_longsOf 4 = .ok (.aload_n 0, 1) := by decide +kernel
theorem d_Scan_longsOf_5 : decode b_Scan_longsOf 5 = .ok (.getfield 25, 3) := by decide +kernel
theorem d_Scan_longsOf_8 : decode b_Scan_longsOf 8 = .ok (.invokestatic 92, 3) := by decide +kernel
theorem d_Scan_longsOf_11 : decode b_Scan_longsOf 11 = .ok (.iload_n 1, 1) := by decide +kernel
theorem d_Scan_longsOf_12 : decode b_Scan_longsOf 12 = .ok (.iload_n 2, 1) := by decide +kernel
theorem d_Scan_longsOf_13 : decode b_Scan_longsOf 13 = .ok (.aload_n 0, 1) := by decide +kernel
theorem d_Scan_longsOf_14 : decode b_Scan_longsOf 14 = .ok (.getfield 25, 3) := by decide +kernel
theorem d_Scan_longsOf_17 : decode b_Scan_longsOf 17 = .ok (.invokestatic 92, 3) := by decide +kernel
theorem d_Scan_longsOf_20 : decode b_Scan_longsOf 20 = .ok (.isub, 1) := by decide +kernel
theorem d_Scan_longsOf_21 : decode b_Scan_longsOf 21 = .ok (.ireturn, 1) := by decide +kernel
theorem d_Scan_nextWidth_0 : decode b_Scan_nextWidth 0 = .ok (.aload_n 0, 1) := by decide +kernel
theorem d_Scan_nextWidth_1 : decode b_Scan_nextWidth 1 = .ok (.getfield 15, 3) := by decide +kernel
theorem d_Scan_nextWidth_4 : decode b_Scan_nextWidth 4 = .ok (.istore_n 2, 1) := by decide +kernel
theorem d_Scan_nextWidth_5 : decode b_Scan_nextWidth 5 = .ok (.aload_n 0, 1) := by decide +kernel
theorem d_Scan_nextWidth_6 : decode b_Scan_nextWidth 6 = .ok (.invokevirtual 96, 3) := by decide +kernel
theorem d_Scan_nextWidth_9 : decode b_Scan_nextWidth 9 = .ok (.istore_n 3, 1) := by decide +kernel
theorem d_Scan_nextWidth_10 : decode b_Scan_nextWidth 10 = .ok (.iload_n 3, 1) := by decide +kernel
theorem d_Scan_nextWidth_11 : decode b_Scan_nextWidth 11 = .ok (.bipush 64, 2) := by decide +kernel
theorem d_Scan_nextWidth_13 : decode b_Scan_nextWidth 13 = .ok (.if_icmp .gt 11, 3) := by decide +kernel
theorem d_Scan_nextWidth_16 : decode b_Scan_nextWidth 16 = .ok (.iload_n 3, 1) := by decide +kernel
theorem d_Scan_nextWidth_17 : decode b_Scan_nextWidth 17 = .ok (.ifCond .eq 13, 3) := by decide +kernel
theorem d_Scan_nextWidth_20 : decode b_Scan_nextWidth 20 = .ok (.iload_n 1, 1) := by decide +kernel
theorem d_Scan_nextWidth_21 : decode b_Scan_nextWidth 21 = .ok (.ifCond .ne 9, 3) := by decide +kernel
theorem d_Scan_nextWidth_24 : decode b_Scan_nextWidth 24 = .ok (.aload_n 0, 1) := by decide +kernel
theorem d_Scan_nextWidth_25 : decode b_Scan_nextWidth 25 = .ok (.iconst 5, 1) := by decide +kernel
theorem d_Scan_nextWidth_26 : decode b_Scan_nextWidth 26 = .ok (.iload_n 2, 1) := by decide +kernel
theorem d_Scan_nextWidth_27 : decode b_Scan_nextWidth 27 = .ok (.invokevirtual 57, 3) := by decide +kernel
theorem d_Scan_nextWidth_30 : decode b_Scan_nextWidth 30 = .ok (.iload_n 3, 1) := by decide +kernel
theorem d_Scan_nextWidth_31 : decode b_Scan_nextWidth 31 = .ok (.ireturn, 1) := by decide +kernel
theorem d_Scan_passPart_0 : decode b_Scan_passPart 0 = .ok (.iload_n 1, 1) := by decide +kernel
theorem d_Scan_passPart_1 : decode b_Scan_passPart 1 = .ok (.invokestatic 100, 3) := by decide +kernel
theorem d_Scan_passPart_4 : decode b_Scan_passPart 4 = .ok (.aload_n 0, 1) := by decide +kernel
theorem d_Scan_passPart_5 : decode b_Scan_passPart 5 = .ok (.getfield 9, 3) := by decide +kernel
theorem d_Scan_passPart_8 : decode b_Scan_passPart 8 = .ok (.getfield 52, 3) := by decide +kernel
theorem d_Scan_passPart_11 : decode b_Scan_passPart 11 = .ok (.aload_n 0, 1) := by decide +kernel
theorem d_Scan_passPart_12 : decode b_Scan_passPart 12 = .ok (.getfield 15, 3) := by decide +kernel
theorem d_Scan_passPart_15 : decode b_Scan_passPart 15 = .ok (.isub, 1) := by decide +kernel
theorem d_Scan_passPart_16 : decode b_Scan_passPart 16 = .ok (.if_icmp .le 16, 3) := by decide +kernel
theorem d_Scan_passPart_19 : decode b_Scan_passPart 19 = .ok (.aload_n 0, 1) := by decide +kernel
theorem d_Scan_passPart_20 : decode b_Scan_passPart 20 = .ok (.iconst 1, 1) := by decide +kernel
theorem d_Scan_passPart_21 : decode b_Scan_passPart 21 = .ok (.aload_n 0, 1) := by decide +kernel
theorem d_Scan_passPart_22 : decode b_Scan_passPart 22 = .ok (.getfield 9, 3) := by decide +kernel
theorem d_Scan_passPart_25 : decode b_Scan_passPart 25 = .ok (.getfield 52, 3) := by decide +kernel
theorem d_Scan_passPart_28 : decode b_Scan_passPart 28 = .ok (.invokevirtual 57, 3) := by decide +kernel
theorem d_Scan_passPart_31 : decode b_Scan_passPart 31 = .ok (.return_, 1) := by decide +kernel
theorem d_Scan_passPart_32 : decode b_Scan_passPart 32 = .ok (.iload_n 2, 1) := by decide +kernel
theorem d_Scan_passPart_33 : decode b_Scan_passPart 33 = .ok (.istore_n 3, 1) := by decide +kernel
theorem d_Scan_passPart_34 : decode b_Scan_passPart 34 = .ok (.iload_n 3, 1) := by decide +kernel
theorem d_Scan_passPart_35 : decode b_Scan_passPart 35 = .ok (.bipush 16, 2) := by decide +kernel
theorem d_Scan_passPart_37 : decode b_Scan_passPart 37 = .ok (.if_icmp .ge 43, 3) := by decide +kernel
theorem d_Scan_passPart_40 : decode b_Scan_passPart 40 = .ok (.aload_n 0, 1) := by decide +kernel
theorem d_Scan_passPart_41 : decode b_Scan_passPart 41 = .ok (.getfield 9, 3) := by decide +kernel
theorem d_Scan_passPart_44 : decode b_Scan_passPart 44 = .ok (.aload_n 0, 1) := by decide +kernel
theorem d_Scan_passPart_45 : decode b_Scan_passPart 45 = .ok (.getfield 15, 3) := by decide +kernel
theorem d_Scan_passPart_48 : decode b_Scan_passPart 48 = .ok (.bipush 8, 2) := by decide +kernel
theorem d_Scan_passPart_50 : decode b_Scan_passPart 50 = .ok (.imul, 1) := by decide +kernel
theorem d_Scan_passPart_51 : decode b_Scan_passPart 51 = .ok (.iload_n 3, 1) := by decide +kernel
theorem d_Scan_passPart_52 : decode b_Scan_passPart 52 = .ok (.iload_n 1, 1) := by decide +kernel
theorem d_Scan_passPart_53 : decode b_Scan_passPart 53 = .ok (.imul, 1) := by decide +kernel
theorem d_Scan_passPart_54 : decode b_Scan_passPart 54 = .ok (.iadd, 1) := by decide +kernel
theorem d_Scan_passPart_55 : decode b_Scan_passPart 55 = .ok (.iload_n 1, 1) := by decide +kernel
theorem d_Scan_passPart_56 : decode b_Scan_passPart 56 = .ok (.invokevirtual 103, 3) := by decide +kernel
theorem d_Scan_passPart_59 : decode b_Scan_passPart 59 = .ok (.lconst 0, 1) := by decide +kernel
theorem d_Scan_passPart_60 : decode b_Scan_passPart 60 = .ok (.lcmp, 1) := by decide +kernel
theorem d_Scan_passPart_61 : decode b_Scan_passPart 61 = .ok (.ifCond .eq 13, 3) := by decide +kernel
theorem d_Scan_passPart_64 : decode b_Scan_passPart 64 = .ok (.aload_n 0, 1) := by decide +kernel
theorem d_Scan_passPart_65 : decode b_Scan_passPart 65 = .ok (.iconst 5, 1) := by decide +kernel
theorem d_Scan_passPart_66 : decode b_Scan_passPart 66 = .ok (.aload_n 0, 1) := by decide +kernel
theorem d_Scan_passPart_67 : decode b_Scan_passPart 67 = .ok (.getfield 15, 3) := by decide +kernel
theorem d_Scan_passPart_70 : decode b_Scan_passPart 70 = .ok (.invokevirtual 57, 3) := by decide +kernel
theorem d_Scan_passPart_73 : decode b_Scan_passPart 73 = .ok (.return_, 1) := by decide +kernel
theorem d_Scan_passPart_74 : decode b_Scan_passPart 74 = .ok (.iinc 3 1, 3) := by decide +kernel
theorem d_Scan_passPart_77 : decode b_Scan_passPart 77 = .ok (.goto (-43), 3) := by decide +kernel
theorem d_Scan_passPart_80 : decode b_Scan_passPart 80 = .ok (.aload_n 0, 1) := by decide +kernel
