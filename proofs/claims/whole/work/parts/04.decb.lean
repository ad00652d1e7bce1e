theorem d_Layout_init_0 : decode b_Layout_init 0 = .ok (.aload_n 0, 1) := by decide +kernel
theorem d_Layout_init_1 : decode b_Layout_init 1 = .ok (.invokespecial 3, 3) := by decide +kernel
theorem d_Layout_init_4 : decode b_Layout_init 4 = .ok (.aload_n 0, 1) := by decide +kernel
theorem d_Layout_init_5 : decode b_Layout_init 5 = .ok (.iconst 0, 1) := by decide +kernel
theorem d_Layout_init_6 : decode b_Layout_init 6 = .ok (.putfield 9, 3) := by decide +kernel
theorem d_Layout_init_9 : decode b_Layout_init 9 = .ok (.aload_n 0, 1) := by decide +kernel
theorem d_Layout_init_10 : decode b_Layout_init 10 = .ok (.bipush 32, 2) := by decide +kernel
theorem d_Layout_init_12 : decode b_Layout_init 12 = .ok (.newarray .long, 2) := by decide +kernel
theorem d_Layout_init_14 : decode b_Layout_init 14 = .ok (.putfield 15, 3) := by decide +kernel
theorem d_Layout_init_17 : decode b_Layout_init 17 = .ok (.aload_n 0, 1) := by decide +kernel
theorem d_Layout_init_18 : decode b_Layout_init 18 = .ok (.sipush 128, 3) := by decide +kernel
theorem d_Layout_init_21 : decode b_Layout_init 21 = .ok (.newarray .int, 2) := by decide +kernel
theorem d_Layout_init_23 : decode b_Layout_init 23 = .ok (.putfield 19, 3) := by decide +kernel
theorem d_Layout_init_26 : decode b_Layout_init 26 = .ok (.aload_n 0, 1) := by decide +kernel
theorem d_Layout_init_27 : decode b_Layout_init 27 = .ok (.sipush 128, 3) := by decide +kernel
theorem d_Layout_init_30 : decode b_Layout_init 30 = .ok (.newarray .int, 2) := by decide +kernel
theorem d_Layout_init_32 : decode b_Layout_init 32 = .ok (.putfield 23, 3) := by decide +kernel
theorem d_Layout_init_35 : decode b_Layout_init 35 = .ok (.return_, 1) := by decide +kernel
theorem d_Layout_hasBlock_0 : decode b_Layout_hasBlock 0 = .ok (.iload_n 1, 1) := by decide +kernel
theorem d_Layout_hasBlock_1 : decode b_Layout_hasBlock 1 = .ok (.ifCond .lt 15, 3) := by decide +kernel
theorem d_Layout_hasBlock_4 : decode b_Layout_hasBlock 4 = .ok (.iload_n 1, 1) := by decide +kernel
theorem d_Layout_hasBlock_5 : decode b_Layout_hasBlock 5 = .ok (.aload_n 0, 1) := by decide +kernel
theorem d_Layout_hasBlock_6 : decode b_Layout_hasBlock 6 = .ok (.getfield 9, 3) := by decide +kernel
theorem d_Layout_hasBlock_9 : decode b_Layout_hasBlock 9 = .ok (.if_icmp .ge 7, 3) := by decide +kernel
theorem d_Layout_hasBlock_12 : decode b_Layout_hasBlock 12 = .ok (.iconst 1, 1) := by decide +kernel
theorem d_Layout_hasBlock_13 : decode b_Layout_hasBlock 13 = .ok (.goto 4, 3) := by decide +kernel
theorem d_Layout_hasBlock_16 : decode b_Layout_hasBlock 16 = .ok (.iconst 0, 1) := by decide +kernel
theorem d_Layout_hasBlock_17 : decode b_Layout_hasBlock 17 = .ok (.ireturn, 1) := by decide +kernel
theorem d_Layout_hasPart_0 : decode b_Layout_hasPart 0 = .ok (.aload_n 0, 1) := by decide +kernel
theorem d_Layout_hasPart_1 : decode b_Layout_hasPart 1 = .ok (.iload_n 1, 1) := by decide +kernel
theorem d_Layout_hasPart_2 : decode b_Layout_hasPart 2 = .ok (.invokevirtual 26, 3) := by decide +kernel
theorem d_Layout_hasPart_5 : decode b_Layout_hasPart 5 = .ok (.ifCond .eq 16, 3) := by decide +kernel
theorem d_Layout_hasPart_8 : decode b_Layout_hasPart 8 = .ok (.iload_n 2, 1) := by decide +kernel
theorem d_Layout_hasPart_9 : decode b_Layout_hasPart 9 = .ok (.ifCond .lt 12, 3) := by decide +kernel
theorem d_Layout_hasPart_12 : decode b_Layout_hasPart 12 = .ok (.iload_n 2, 1) := by decide +kernel
theorem d_Layout_hasPart_13 : decode b_Layout_hasPart 13 = .ok (.iconst 4, 1) := by decide +kernel
theorem d_Layout_hasPart_14 : decode b_Layout_hasPart 14 = .ok (.if_icmp .ge 7, 3) := by decide +kernel
theorem d_Layout_hasPart_17 : decode b_Layout_hasPart 17 = .ok (.iconst 1, 1) := by decide +kernel
theorem d_Layout_hasPart_18 : decode b_Layout_hasPart 18 = .ok (.goto 4, 3) := by decide +kernel
theorem d_Layout_hasPart_21 : decode b_Layout_hasPart 21 = .ok (.iconst 0, 1) := by decide +kernel
theorem d_Layout_hasPart_22 : decode b_Layout_hasPart 22 = .ok (.ireturn, 1) := by decide +kernel
