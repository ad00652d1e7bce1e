theorem d_Model_blocks_2 : decode b_Model_blocks 2 = .ok (.putfield 42, 3) := by decide +kernel
theorem d_Model_blocks_5 : decode b_Model_blocks 5 = .ok (.aload_n 0, 1) := by decide +kernel
theorem d_Model_blocks_6 : decode b_Model_blocks 6 = .ok (.getfield 61, 3) := by decide +kernel
theorem d_Model_blocks_9 : decode b_Model_blocks 9 = .ok (.ireturn, 1) := by decide +kernel
theorem d_Model_least_0 : decode b_Model_least 0 = .ok (.aload_n 0, 1) := by decide +kernel
theorem d_Model_least_1 : decode b_Model_least 1 = .ok (.iconst 0, 1) := by decide +kernel
theorem d_Model_least_2 : decode b_Model_least 2 = .ok (.putfield 42, 3) := by decide +kernel
theorem d_Model_least_5 : decode b_Model_least 5 = .ok (.iload_n 1, 1) := by decide +kernel
theorem d_Model_least_6 : decode b_Model_least 6 = .ok (.ifCond .lt 11, 3) := by decide +kernel
theorem d_Model_least_9 : decode b_Model_least 9 = .ok (.iload_n 1, 1) := by decide +kernel
theorem d_Model_least_10 : decode b_Model_least 10 = .ok (.aload_n 0, 1) := by decide +kernel
theorem d_Model_least_11 : decode b_Model_least 11 = .ok (.getfield 61, 3) := by decide +kernel
theorem d_Model_least_14 : decode b_Model_least 14 = .ok (.if_icmp .lt 7, 3) := by decide +kernel
theorem d_Model_least_17 : decode b_Model_least 17 = .ok (.lconst 0, 1) := by decide +kernel
theorem d_Model_least_18 : decode b_Model_least 18 = .ok (.goto 9, 3) := by decide +kernel
theorem d_Model_least_21 : decode b_Model_least 21 = .ok (.aload_n 0, 1) := by decide +kernel
theorem d_Model_least_22 : decode b_Model_least 22 = .ok (.getfield 24, 3) := by decide +kernel
theorem d_Model_least_25 : decode b_Model_least 25 = .ok (.iload_n 1, 1) := by decide +kernel
theorem d_Model_least_26 : decode b_Model_least 26 = .ok (.laload, 1) := by decide +kernel
theorem d_Model_least_27 : decode b_Model_least 27 = .ok (.lreturn, 1) := by decide +kernel
theorem d_Model_width_0 : decode b_Model_width 0 = .ok (.aload_n 0, 1) := by decide +kernel
theorem d_Model_width_1 : decode b_Model_width 1 = .ok (.iconst 0, 1) := by decide +kernel
theorem d_Model_width_2 : decode b_Model_width 2 = .ok (.putfield 42, 3) := by decide +kernel
theorem d_Model_width_5 : decode b_Model_width 5 = .ok (.iload_n 1, 1) := by decide +kernel
theorem d_Model_width_6 : decode b_Model_width 6 = .ok (.ifCond .lt 20, 3) := by decide +kernel
theorem d_Model_width_9 : decode b_Model_width 9 = .ok (.iload_n 1, 1) := by decide +kernel
theorem d_Model_width_10 : decode b_Model_width 10 = .ok (.aload_n 0, 1) := by decide +kernel
theorem d_Model_width_11 : decode b_Model_width 11 = .ok (.getfield 61, 3) := by decide +kernel
theorem d_Model_width_14 : decode b_Model_width 14 = .ok (.if_icmp .ge 12, 3) := by decide +kernel
theorem d_Model_width_17 : decode b_Model_width 17 = .ok (.iload_n 2, 1) := by decide +kernel
theorem d_Model_width_18 : decode b_Model_width 18 = .ok (.ifCond .lt 8, 3) := by decide +kernel
theorem d_Model_width_21 : decode b_Model_width 21 = .ok (.iload_n 2, 1) := by decide +kernel
theorem d_Model_width_22 : decode b_Model_width 22 = .ok (.iconst 3, 1) := by decide +kernel
theorem d_Model_width_23 : decode b_Model_width 23 = .ok (.if_icmp .le 7, 3) := by decide +kernel
theorem d_Model_width_26 : decode b_Model_width 26 = .ok (.iconst (-1), 1) := by decide +kernel
theorem d_Model_width_27 : decode b_Model_width 27 = .ok (.goto 13, 3) := by decide +kernel
theorem d_Model_width_30 : decode b_Model_width 30 = .ok (.aload_n 0, 1) := by decide +kernel
theorem d_Model_width_31 : decode b_Model_width 31 = .ok (.getfield 30, 3) := by decide +kernel
theorem d_Model_width_34 : decode b_Model_width 34 = .ok (.iconst 4, 1) := by decide +kernel
theorem d_Model_width_35 : decode b_Model_width 35 = .ok (.iload_n 1, 1) := by decide +kernel
theorem d_Model_width_36 : decode b_Model_width 36 = .ok (.imul, 1) := by decide +kernel
theorem d_Model_width_37 : decode b_Model_width 37 = .ok (.iload_n 2, 1) := by decide +kernel
theorem d_Model_width_38 : decode b_Model_width 38 = .ok (.iadd, 1) := by decide +kernel
theorem d_Model_width_39 : decode b_Model_width 39 = .ok (.iaload, 1) := by decide +kernel
theorem d_Model_width_40 : decode b_Model_width 40 = .ok (.ireturn, 1) := by decide +kernel
theorem d_Model_start_0 : decode b_Model_start 0 = .ok (.aload_n 0, 1) := by decide +kernel
theorem d_Model_start_1 : decode b_Model_start 1 = .ok (.iconst 0, 1) := by decide +kernel
theorem d_Model_start_2 : decode b_Model_start 2 = .ok (.putfield 42, 3) := by decide +kernel
theorem d_Model_start_5 : decode b_Model_start 5 = .ok (.iload_n 1, 1) := by decide +kernel
theorem d_Model_start_6 : decode b_Model_start 6 = .ok (.ifCond .lt 20, 3) := by decide +kernel
theorem d_Model_start_9 : decode b_Model_start 9 = .ok (.iload_n 1, 1) := by decide +kernel
theorem d_Model_start_10 : decode b_Model_start 10 = .ok (.aload_n 0, 1) := by decide +kernel
theorem d_Model_start_11 : decode b_Model_start 11 = .ok (.getfield 61, 3) := by decide +kernel
theorem d_Model_start_14 : decode b_Model_start 14 = .ok (.if_icmp .ge 12, 3) := by decide +kernel
theorem d_Model_start_17 : decode b_Model_start 17 = .ok (.iload_n 2, 1) := by decide +kernel
theorem d_Model_start_18 : decode b_Model_start 18 = .ok (.ifCond .lt 8, 3) := by decide +kernel
theorem d_Model_start_21 : decode b_Model_start 21 = .ok (.iload_n 2, 1) := by decide +kernel
theorem d_Model_start_22 : decode b_Model_start 22 = .ok (.iconst 3, 1) := by decide +kernel
theorem d_Model_start_23 : decode b_Model_start 23 = .ok (.if_icmp .le 7, 3) := by decide +kernel
theorem d_Model_start_26 : decode b_Model_start 26 = .ok (.iconst (-1), 1) := by decide +kernel
theorem d_Model_start_27 : decode b_Model_start 27 = .ok (.goto 13, 3) := by decide +kernel
theorem d_Model_start_30 : decode b_Model_start 30 = .ok (.aload_n 0, 1) := by decide +kernel
theorem d_Model_start_31 : decode b_Model_start 31 = .ok (.getfield 33, 3) := by decide +kernel
theorem d_Model_start_34 : decode b_Model_start 34 = .ok (.iconst 4, 1) := by decide +kernel
theorem d_Model_start_35 : decode b_Model_start 35 = .ok (.iload_n 1, 1) := by decide +kernel
theorem d_Model_start_36 : decode b_Model_start 36 = .ok (.imul, 1) := by decide +kernel
theorem d_Model_start_37 : decode b_Model_start 37 = .ok (.iload_n 2, 1) := by decide +kernel
theorem d_Model_start_38 : decode b_Model_start 38 = .ok (.iadd, 1) := by decide +kernel
theorem d_Model_start_39 : decode b_Model_start 39 = .ok (.iaload, 1) := by decide +kernel
theorem d_Model_start_40 : decode b_Model_start 40 = .ok (.ireturn, 1) := by decide +kernel
