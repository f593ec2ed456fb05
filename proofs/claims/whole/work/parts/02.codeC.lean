theorem d_Hours_init_0 : decode prog_2_method_1_code 0 = .ok (.aload_n 0, 1) := by decide +kernel
theorem d_Hours_init_1 : decode prog_2_method_1_code 1 = .ok (.invokespecial 3, 3) := by decide +kernel
theorem d_Hours_init_4 : decode prog_2_method_1_code 4 = .ok (.aload_n 0, 1) := by decide +kernel
theorem d_Hours_init_5 : decode prog_2_method_1_code 5 = .ok (.aload_n 1, 1) := by decide +kernel
theorem d_Hours_init_6 : decode prog_2_method_1_code 6 = .ok (.putfield 9, 3) := by decide +kernel
theorem d_Hours_init_9 : decode prog_2_method_1_code 9 = .ok (.aload_n 0, 1) := by decide +kernel
theorem d_Hours_init_10 : decode prog_2_method_1_code 10 = .ok (.new 15, 3) := by decide +kernel
theorem d_Hours_init_13 : decode prog_2_method_1_code 13 = .ok (.dup, 1) := by decide +kernel
theorem d_Hours_init_14 : decode prog_2_method_1_code 14 = .ok (.invokespecial 17, 3) := by decide +kernel
theorem d_Hours_init_17 : decode prog_2_method_1_code 17 = .ok (.putfield 18, 3) := by decide +kernel
theorem d_Hours_init_20 : decode prog_2_method_1_code 20 = .ok (.aload_n 0, 1) := by decide +kernel
theorem d_Hours_init_21 : decode prog_2_method_1_code 21 = .ok (.new 21, 3) := by decide +kernel
theorem d_Hours_init_24 : decode prog_2_method_1_code 24 = .ok (.dup, 1) := by decide +kernel
theorem d_Hours_init_25 : decode prog_2_method_1_code 25 = .ok (.aload_n 1, 1) := by decide +kernel
theorem d_Hours_init_26 : decode prog_2_method_1_code 26 = .ok (.aload_n 0, 1) := by decide +kernel
theorem d_Hours_init_27 : decode prog_2_method_1_code 27 = .ok (.getfield 18, 3) := by decide +kernel
theorem d_Hours_init_30 : decode prog_2_method_1_code 30 = .ok (.aload_n 2, 1) := by decide +kernel
theorem d_Hours_init_31 : decode prog_2_method_1_code 31 = .ok (.invokespecial 23, 3) := by decide +kernel
theorem d_Hours_init_34 : decode prog_2_method_1_code 34 = .ok (.putfield 26, 3) := by decide +kernel
theorem d_Hours_init_37 : decode prog_2_method_1_code 37 = .ok (.return_, 1) := by decide +kernel
theorem d_Hours_teamCount_0 : decode prog_2_method_2_code 0 = .ok (.aload_n 0, 1) := by decide +kernel
theorem d_Hours_teamCount_1 : decode prog_2_method_2_code 1 = .ok (.getfield 18, 3) := by decide +kernel
theorem d_Hours_teamCount_4 : decode prog_2_method_2_code 4 = .ok (.invokevirtual 30, 3) := by decide +kernel
theorem d_Hours_teamCount_7 : decode prog_2_method_2_code 7 = .ok (.ireturn, 1) := by decide +kernel
theorem d_Hours_addTeam_0 : decode prog_2_method_3_code 0 = .ok (.aload_n 0, 1) := by decide +kernel
theorem d_Hours_addTeam_1 : decode prog_2_method_3_code 1 = .ok (.getfield 18, 3) := by decide +kernel
theorem d_Hours_addTeam_4 : decode prog_2_method_3_code 4 = .ok (.new 34, 3) := by decide +kernel
theorem d_Hours_addTeam_7 : decode prog_2_method_3_code 7 = .ok (.dup, 1) := by decide +kernel
theorem d_Hours_addTeam_8 : decode prog_2_method_3_code 8 = .ok (.iload_n 1, 1) := by decide +kernel
theorem d_Hours_addTeam_9 : decode prog_2_method_3_code 9 = .ok (.invokespecial 36, 3) := by decide +kernel
theorem d_Hours_addTeam_12 : decode prog_2_method_3_code 12 = .ok (.invokevirtual 39, 3) := by decide +kernel
theorem d_Hours_addTeam_15 : decode prog_2_method_3_code 15 = .ok (.pop, 1) := by decide +kernel
theorem d_Hours_addTeam_16 : decode prog_2_method_3_code 16 = .ok (.aload_n 0, 1) := by decide +kernel
theorem d_Hours_addTeam_17 : decode prog_2_method_3_code 17 = .ok (.getfield 18, 3) := by decide +kernel
theorem d_Hours_addTeam_20 : decode prog_2_method_3_code 20 = .ok (.invokevirtual 30, 3) := by decide +kernel
theorem d_Hours_addTeam_23 : decode prog_2_method_3_code 23 = .ok (.iconst 1, 1) := by decide +kernel
theorem d_Hours_addTeam_24 : decode prog_2_method_3_code 24 = .ok (.isub, 1) := by decide +kernel
theorem d_Hours_addTeam_25 : decode prog_2_method_3_code 25 = .ok (.ireturn, 1) := by decide +kernel
theorem d_Hours_minuteNow_0 : decode prog_2_method_4_code 0 = .ok (.aload_n 0, 1) := by decide +kernel
theorem d_Hours_minuteNow_1 : decode prog_2_method_4_code 1 = .ok (.getfield 43, 3) := by decide +kernel
theorem d_Hours_minuteNow_4 : decode prog_2_method_4_code 4 = .ok (.ireturn, 1) := by decide +kernel
theorem d_Hours_over_0 : decode prog_2_method_5_code 0 = .ok (.aload_n 0, 1) := by decide +kernel
theorem d_Hours_over_1 : decode prog_2_method_5_code 1 = .ok (.getfield 43, 3) := by decide +kernel
theorem d_Hours_over_4 : decode prog_2_method_5_code 4 = .ok (.aload_n 0, 1) := by decide +kernel
theorem d_Hours_over_5 : decode prog_2_method_5_code 5 = .ok (.getfield 47, 3) := by decide +kernel
theorem d_Hours_over_8 : decode prog_2_method_5_code 8 = .ok (.if_icmp .lt 7, 3) := by decide +kernel
theorem d_Hours_over_11 : decode prog_2_method_5_code 11 = .ok (.iconst 1, 1) := by decide +kernel
theorem d_Hours_over_12 : decode prog_2_method_5_code 12 = .ok (.goto 4, 3) := by decide +kernel
theorem d_Hours_over_15 : decode prog_2_method_5_code 15 = .ok (.iconst 0, 1) := by decide +kernel
theorem d_Hours_over_16 : decode prog_2_method_5_code 16 = .ok (.ireturn, 1) := by decide +kernel
theorem d_Hours_ring_0 : decode prog_2_method_6_code 0 = .ok (.aload_n 0, 1) := by decide +kernel
theorem d_Hours_ring_1 : decode prog_2_method_6_code 1 = .ok (.iload_n 1, 1) := by decide +kernel
theorem d_Hours_ring_2 : decode prog_2_method_6_code 2 = .ok (.putfield 47, 3) := by decide +kernel
theorem d_Hours_ring_5 : decode prog_2_method_6_code 5 = .ok (.aload_n 0, 1) := by decide +kernel
theorem d_Hours_ring_6 : decode prog_2_method_6_code 6 = .ok (.invokevirtual 50, 3) := by decide +kernel
theorem d_Hours_ring_9 : decode prog_2_method_6_code 9 = .ok (.ireturn, 1) := by decide +kernel
theorem d_Hours_planBy_0 : decode prog_2_method_7_code 0 = .ok (.aload_n 0, 1) := by decide +kernel
theorem d_Hours_planBy_1 : decode prog_2_method_7_code 1 = .ok (.iload_n 1, 1) := by decide +kernel
theorem d_Hours_planBy_2 : decode prog_2_method_7_code 2 = .ok (.putfield 53, 3) := by decide +kernel
theorem d_Hours_planBy_5 : decode prog_2_method_7_code 5 = .ok (.aload_n 0, 1) := by decide +kernel
theorem d_Hours_planBy_6 : decode prog_2_method_7_code 6 = .ok (.invokevirtual 50, 3) := by decide +kernel
theorem d_Hours_planBy_9 : decode prog_2_method_7_code 9 = .ok (.ireturn, 1) := by decide +kernel
theorem d_Hours_makePlan_0 : decode prog_2_method_8_code 0 = .ok (.aload_n 0, 1) := by decide +kernel
theorem d_Hours_makePlan_1 : decode prog_2_method_8_code 1 = .ok (.getfield 53, 3) := by decide +kernel
theorem d_Hours_makePlan_4 : decode prog_2_method_8_code 4 = .ok (.ifCond .eq 30, 3) := by decide +kernel
theorem d_Hours_makePlan_7 : decode prog_2_method_8_code 7 = .ok (.aload_n 0, 1) := by decide +kernel
theorem d_Hours_makePlan_8 : decode prog_2_method_8_code 8 = .ok (.invokevirtual 57, 3) := by decide +kernel
theorem d_Hours_makePlan_11 : decode prog_2_method_8_code 11 = .ok (.bipush 8, 2) := by decide +kernel
theorem d_Hours_makePlan_13 : decode prog_2_method_8_code 13 = .ok (.if_icmp .gt 21, 3) := by decide +kernel
theorem d_Hours_makePlan_16 : decode prog_2_method_8_code 16 = .ok (.aload_n 0, 1) := by decide +kernel
theorem d_Hours_makePlan_17 : decode prog_2_method_8_code 17 = .ok (.getfield 26, 3) := by decide +kernel
theorem d_Hours_makePlan_20 : decode prog_2_method_8_code 20 = .ok (.aload_n 0, 1) := by decide +kernel
theorem d_Hours_makePlan_21 : decode prog_2_method_8_code 21 = .ok (.getfield 43, 3) := by decide +kernel
theorem d_Hours_makePlan_24 : decode prog_2_method_8_code 24 = .ok (.aload_n 0, 1) := by decide +kernel
theorem d_Hours_makePlan_25 : decode prog_2_method_8_code 25 = .ok (.getfield 47, 3) := by decide +kernel
theorem d_Hours_makePlan_28 : decode prog_2_method_8_code 28 = .ok (.invokevirtual 60, 3) := by decide +kernel
theorem d_Hours_makePlan_31 : decode prog_2_method_8_code 31 = .ok (.goto 18, 3) := by decide +kernel
theorem d_Hours_makePlan_34 : decode prog_2_method_8_code 34 = .ok (.aload_n 0, 1) := by decide +kernel
theorem d_Hours_makePlan_35 : decode prog_2_method_8_code 35 = .ok (.getfield 26, 3) := by decide +kernel
theorem d_Hours_makePlan_38 : decode prog_2_method_8_code 38 = .ok (.aload_n 0, 1) := by decide +kernel
theorem d_Hours_makePlan_39 : decode prog_2_method_8_code 39 = .ok (.getfield 43, 3) := by decide +kernel
theorem d_Hours_makePlan_42 : decode prog_2_method_8_code 42 = .ok (.aload_n 0, 1) := by decide +kernel
theorem d_Hours_makePlan_43 : decode prog_2_method_8_code 43 = .ok (.getfield 47, 3) := by decide +kernel
theorem d_Hours_makePlan_46 : decode prog_2_method_8_code 46 = .ok (.invokevirtual 64, 3) := by decide +kernel
theorem d_Hours_makePlan_49 : decode prog_2_method_8_code 49 = .ok (.istore_n 1, 1) := by decide +kernel
theorem d_Hours_makePlan_50 : decode prog_2_method_8_code 50 = .ok (.aload_n 0, 1) := by decide +kernel
theorem d_Hours_makePlan_51 : decode prog_2_method_8_code 51 = .ok (.getfield 26, 3) := by decide +kernel
theorem d_Hours_makePlan_54 : decode prog_2_method_8_code 54 = .ok (.invokevirtual 67, 3) := by decide +kernel
theorem d_Hours_makePlan_57 : decode prog_2_method_8_code 57 = .ok (.iload_n 1, 1) := by decide +kernel
theorem d_Hours_makePlan_58 : decode prog_2_method_8_code 58 = .ok (.ireturn, 1) := by decide +kernel
theorem d_Hours_gapNow_0 : decode prog_2_method_9_code 0 = .ok (.aload_n 0, 1) := by decide +kernel
theorem d_Hours_gapNow_1 : decode prog_2_method_9_code 1 = .ok (.getfield 26, 3) := by decide +kernel
theorem d_Hours_gapNow_4 : decode prog_2_method_9_code 4 = .ok (.aload_n 0, 1) := by decide +kernel
theorem d_Hours_gapNow_5 : decode prog_2_method_9_code 5 = .ok (.getfield 43, 3) := by decide +kernel
theorem d_Hours_gapNow_8 : decode prog_2_method_9_code 8 = .ok (.aload_n 0, 1) := by decide +kernel
theorem d_Hours_gapNow_9 : decode prog_2_method_9_code 9 = .ok (.getfield 47, 3) := by decide +kernel
theorem d_Hours_gapNow_12 : decode prog_2_method_9_code 12 = .ok (.invokevirtual 60, 3) := by decide +kernel
theorem d_Hours_gapNow_15 : decode prog_2_method_9_code 15 = .ok (.aload_n 0, 1) := by decide +kernel
theorem d_Hours_gapNow_16 : decode prog_2_method_9_code 16 = .ok (.getfield 26, 3) := by decide +kernel
theorem d_Hours_gapNow_19 : decode prog_2_method_9_code 19 = .ok (.aload_n 0, 1) := by decide +kernel
theorem d_Hours_gapNow_20 : decode prog_2_method_9_code 20 = .ok (.getfield 43, 3) := by decide +kernel
theorem d_Hours_gapNow_23 : decode prog_2_method_9_code 23 = .ok (.aload_n 0, 1) := by decide +kernel
theorem d_Hours_gapNow_24 : decode prog_2_method_9_code 24 = .ok (.getfield 47, 3) := by decide +kernel
theorem d_Hours_gapNow_27 : decode prog_2_method_9_code 27 = .ok (.invokevirtual 64, 3) := by decide +kernel
theorem d_Hours_gapNow_30 : decode prog_2_method_9_code 30 = .ok (.isub, 1) := by decide +kernel
theorem d_Hours_gapNow_31 : decode prog_2_method_9_code 31 = .ok (.ireturn, 1) := by decide +kernel
theorem d_Hours_inRooms_0 : decode prog_2_method_10_code 0 = .ok (.iconst 0, 1) := by decide +kernel
theorem d_Hours_inRooms_1 : decode prog_2_method_10_code 1 = .ok (.istore_n 1, 1) := by decide +kernel
theorem d_Hours_inRooms_2 : decode prog_2_method_10_code 2 = .ok (.iconst 0, 1) := by decide +kernel
theorem d_Hours_inRooms_3 : decode prog_2_method_10_code 3 = .ok (.istore_n 2, 1) := by decide +kernel
theorem d_Hours_inRooms_4 : decode prog_2_method_10_code 4 = .ok (.iload_n 2, 1) := by decide +kernel
theorem d_Hours_inRooms_5 : decode prog_2_method_10_code 5 = .ok (.aload_n 0, 1) := by decide +kernel
theorem d_Hours_inRooms_6 : decode prog_2_method_10_code 6 = .ok (.getfield 9, 3) := by decide +kernel
theorem d_Hours_inRooms_9 : decode prog_2_method_10_code 9 = .ok (.invokevirtual 30, 3) := by decide +kernel
theorem d_Hours_inRooms_12 : decode prog_2_method_10_code 12 = .ok (.if_icmp .ge 36, 3) := by decide +kernel
theorem d_Hours_inRooms_15 : decode prog_2_method_10_code 15 = .ok (.iload_n 1, 1) := by decide +kernel
theorem d_Hours_inRooms_16 : decode prog_2_method_10_code 16 = .ok (.aload_n 0, 1) := by decide +kernel
theorem d_Hours_inRooms_17 : decode prog_2_method_10_code 17 = .ok (.getfield 9, 3) := by decide +kernel
theorem d_Hours_inRooms_20 : decode prog_2_method_10_code 20 = .ok (.iload_n 2, 1) := by decide +kernel
theorem d_Hours_inRooms_21 : decode prog_2_method_10_code 21 = .ok (.invokevirtual 70, 3) := by decide +kernel
theorem d_Hours_inRooms_24 : decode prog_2_method_10_code 24 = .ok (.checkcast 74, 3) := by decide +kernel
theorem d_Hours_inRooms_27 : decode prog_2_method_10_code 27 = .ok (.bipush 100, 2) := by decide +kernel
theorem d_Hours_inRooms_29 : decode prog_2_method_10_code 29 = .ok (.invokevirtual 76, 3) := by decide +kernel
theorem d_Hours_inRooms_32 : decode prog_2_method_10_code 32 = .ok (.ifCond .eq 7, 3) := by decide +kernel
theorem d_Hours_inRooms_35 : decode prog_2_method_10_code 35 = .ok (.iconst 1, 1) := by decide +kernel
theorem d_Hours_inRooms_36 : decode prog_2_method_10_code 36 = .ok (.goto 4, 3) := by decide +kernel
theorem d_Hours_inRooms_39 : decode prog_2_method_10_code 39 = .ok (.iconst 0, 1) := by decide +kernel
theorem d_Hours_inRooms_40 : decode prog_2_method_10_code 40 = .ok (.iadd, 1) := by decide +kernel
theorem d_Hours_inRooms_41 : decode prog_2_method_10_code 41 = .ok (.istore_n 1, 1) := by decide +kernel
theorem d_Hours_inRooms_42 : decode prog_2_method_10_code 42 = .ok (.iinc 2 1, 3) := by decide +kernel
theorem d_Hours_inRooms_45 : decode prog_2_method_10_code 45 = .ok (.goto (-41), 3) := by decide +kernel
theorem d_Hours_inRooms_48 : decode prog_2_method_10_code 48 = .ok (.iload_n 1, 1) := by decide +kernel
theorem d_Hours_inRooms_49 : decode prog_2_method_10_code 49 = .ok (.ireturn, 1) := by decide +kernel
theorem d_Hours_isBusy_0 : decode prog_2_method_11_code 0 = .ok (.iload_n 1, 1) := by decide +kernel
theorem d_Hours_isBusy_1 : decode prog_2_method_11_code 1 = .ok (.iconst 0, 1) := by decide +kernel
theorem d_Hours_isBusy_2 : decode prog_2_method_11_code 2 = .ok (.aload_n 0, 1) := by decide +kernel
theorem d_Hours_isBusy_3 : decode prog_2_method_11_code 3 = .ok (.getfield 18, 3) := by decide +kernel
theorem d_Hours_isBusy_6 : decode prog_2_method_11_code 6 = .ok (.invokevirtual 30, 3) := by decide +kernel
theorem d_Hours_isBusy_9 : decode prog_2_method_11_code 9 = .ok (.iconst 1, 1) := by decide +kernel
theorem d_Hours_isBusy_10 : decode prog_2_method_11_code 10 = .ok (.isub, 1) := by decide +kernel
theorem d_Hours_isBusy_11 : decode prog_2_method_11_code 11 = .ok (.invokestatic 80, 3) := by decide +kernel
theorem d_Hours_isBusy_14 : decode prog_2_method_11_code 14 = .ok (.ifCond .eq 24, 3) := by decide +kernel
theorem d_Hours_isBusy_17 : decode prog_2_method_11_code 17 = .ok (.aload_n 0, 1) := by decide +kernel
theorem d_Hours_isBusy_18 : decode prog_2_method_11_code 18 = .ok (.getfield 18, 3) := by decide +kernel
theorem d_Hours_isBusy_21 : decode prog_2_method_11_code 21 = .ok (.iload_n 1, 1) := by decide +kernel
theorem d_Hours_isBusy_22 : decode prog_2_method_11_code 22 = .ok (.invokevirtual 70, 3) := by decide +kernel
theorem d_Hours_isBusy_25 : decode prog_2_method_11_code 25 = .ok (.checkcast 34, 3) := by decide +kernel
theorem d_Hours_isBusy_28 : decode prog_2_method_11_code 28 = .ok (.invokevirtual 84, 3) := by decide +kernel
theorem d_Hours_isBusy_31 : decode prog_2_method_11_code 31 = .ok (.ifCond .eq 7, 3) := by decide +kernel
theorem d_Hours_isBusy_34 : decode prog_2_method_11_code 34 = .ok (.iconst 1, 1) := by decide +kernel
theorem d_Hours_isBusy_35 : decode prog_2_method_11_code 35 = .ok (.goto 4, 3) := by decide +kernel
theorem d_Hours_isBusy_38 : decode prog_2_method_11_code 38 = .ok (.iconst 0, 1) := by decide +kernel
theorem d_Hours_isBusy_39 : decode prog_2_method_11_code 39 = .ok (.ireturn, 1) := by decide +kernel
theorem d_Hours_delay_0 : decode prog_2_method_12_code 0 = .ok (.iload_n 1, 1) := by decide +kernel
theorem d_Hours_delay_1 : decode prog_2_method_12_code 1 = .ok (.iconst 0, 1) := by decide +kernel
theorem d_Hours_delay_2 : decode prog_2_method_12_code 2 = .ok (.aload_n 0, 1) := by decide +kernel
theorem d_Hours_delay_3 : decode prog_2_method_12_code 3 = .ok (.getfield 18, 3) := by decide +kernel
theorem d_Hours_delay_6 : decode prog_2_method_12_code 6 = .ok (.invokevirtual 30, 3) := by decide +kernel
theorem d_Hours_delay_9 : decode prog_2_method_12_code 9 = .ok (.iconst 1, 1) := by decide +kernel
theorem d_Hours_delay_10 : decode prog_2_method_12_code 10 = .ok (.isub, 1) := by decide +kernel
theorem d_Hours_delay_11 : decode prog_2_method_12_code 11 = .ok (.invokestatic 80, 3) := by decide +kernel
theorem d_Hours_delay_14 : decode prog_2_method_12_code 14 = .ok (.ifCond .eq 22, 3) := by decide +kernel
theorem d_Hours_delay_17 : decode prog_2_method_12_code 17 = .ok (.aload_n 0, 1) := by decide +kernel
theorem d_Hours_delay_18 : decode prog_2_method_12_code 18 = .ok (.getfield 18, 3) := by decide +kernel
theorem d_Hours_delay_21 : decode prog_2_method_12_code 21 = .ok (.iload_n 1, 1) := by decide +kernel
theorem d_Hours_delay_22 : decode prog_2_method_12_code 22 = .ok (.invokevirtual 70, 3) := by decide +kernel
theorem d_Hours_delay_25 : decode prog_2_method_12_code 25 = .ok (.checkcast 34, 3) := by decide +kernel
theorem d_Hours_delay_28 : decode prog_2_method_12_code 28 = .ok (.aload_n 0, 1) := by decide +kernel
theorem d_Hours_delay_29 : decode prog_2_method_12_code 29 = .ok (.getfield 43, 3) := by decide +kernel
theorem d_Hours_delay_32 : decode prog_2_method_12_code 32 = .ok (.iload_n 2, 1) := by decide +kernel
theorem d_Hours_delay_33 : decode prog_2_method_12_code 33 = .ok (.invokevirtual 88, 3) := by decide +kernel
theorem d_Hours_delay_36 : decode prog_2_method_12_code 36 = .ok (.aload_n 0, 1) := by decide +kernel
theorem d_Hours_delay_37 : decode prog_2_method_12_code 37 = .ok (.invokevirtual 50, 3) := by decide +kernel
theorem d_Hours_delay_40 : decode prog_2_method_12_code 40 = .ok (.ireturn, 1) := by decide +kernel
theorem d_Hours_beginOf_0 : decode prog_2_method_13_code 0 = .ok (.aload_n 1, 1) := by decide +kernel
theorem d_Hours_beginOf_1 : decode prog_2_method_13_code 1 = .ok (.invokevirtual 92, 3) := by decide +kernel
theorem d_Hours_beginOf_4 : decode prog_2_method_13_code 4 = .ok (.istore_n 2, 1) := by decide +kernel
theorem d_Hours_beginOf_5 : decode prog_2_method_13_code 5 = .ok (.aload_n 1, 1) := by decide +kernel
theorem d_Hours_beginOf_6 : decode prog_2_method_13_code 6 = .ok (.bipush 100, 2) := by decide +kernel
theorem d_Hours_beginOf_8 : decode prog_2_method_13_code 8 = .ok (.invokevirtual 76, 3) := by decide +kernel
theorem d_Hours_beginOf_11 : decode prog_2_method_13_code 11 = .ok (.ifCond .eq 20, 3) := by decide +kernel
theorem d_Hours_beginOf_14 : decode prog_2_method_13_code 14 = .ok (.iload_n 2, 1) := by decide +kernel
theorem d_Hours_beginOf_15 : decode prog_2_method_13_code 15 = .ok (.iconst 0, 1) := by decide +kernel
theorem d_Hours_beginOf_16 : decode prog_2_method_13_code 16 = .ok (.aload_n 0, 1) := by decide +kernel
theorem d_Hours_beginOf_17 : decode prog_2_method_13_code 17 = .ok (.getfield 18, 3) := by decide +kernel
theorem d_Hours_beginOf_20 : decode prog_2_method_13_code 20 = .ok (.invokevirtual 30, 3) := by decide +kernel
theorem d_Hours_beginOf_23 : decode prog_2_method_13_code 23 = .ok (.iconst 1, 1) := by decide +kernel
theorem d_Hours_beginOf_24 : decode prog_2_method_13_code 24 = .ok (.isub, 1) := by decide +kernel
theorem d_Hours_beginOf_25 : decode prog_2_method_13_code 25 = .ok (.invokestatic 80, 3) := by decide +kernel
theorem d_Hours_beginOf_28 : decode prog_2_method_13_code 28 = .ok (.ifCond .ne 5, 3) := by decide +kernel
theorem d_Hours_beginOf_31 : decode prog_2_method_13_code 31 = .ok (.iconst (-1), 1) := by decide +kernel
theorem d_Hours_beginOf_32 : decode prog_2_method_13_code 32 = .ok (.ireturn, 1) := by decide +kernel
theorem d_Hours_beginOf_33 : decode prog_2_method_13_code 33 = .ok (.aload_n 0, 1) := by decide +kernel
theorem d_Hours_beginOf_34 : decode prog_2_method_13_code 34 = .ok (.getfield 18, 3) := by decide +kernel
theorem d_Hours_beginOf_37 : decode prog_2_method_13_code 37 = .ok (.iload_n 2, 1) := by decide +kernel
theorem d_Hours_beginOf_38 : decode prog_2_method_13_code 38 = .ok (.invokevirtual 70, 3) := by decide +kernel
theorem d_Hours_beginOf_41 : decode prog_2_method_13_code 41 = .ok (.checkcast 34, 3) := by decide +kernel
theorem d_Hours_beginOf_44 : decode prog_2_method_13_code 44 = .ok (.aload_n 0, 1) := by decide +kernel
theorem d_Hours_beginOf_45 : decode prog_2_method_13_code 45 = .ok (.getfield 43, 3) := by decide +kernel
theorem d_Hours_beginOf_48 : decode prog_2_method_13_code 48 = .ok (.invokevirtual 95, 3) := by decide +kernel
theorem d_Hours_beginOf_51 : decode prog_2_method_13_code 51 = .ok (.istore_n 3, 1) := by decide +kernel
theorem d_Hours_beginOf_52 : decode prog_2_method_13_code 52 = .ok (.aload_n 0, 1) := by decide +kernel
theorem d_Hours_beginOf_53 : decode prog_2_method_13_code 53 = .ok (.getfield 26, 3) := by decide +kernel
theorem d_Hours_beginOf_56 : decode prog_2_method_13_code 56 = .ok (.invokevirtual 99, 3) := by decide +kernel
theorem d_Hours_beginOf_59 : decode prog_2_method_13_code 59 = .ok (.astore 4, 2) := by decide +kernel
theorem d_Hours_beginOf_61 : decode prog_2_method_13_code 61 = .ok (.iconst 0, 1) := by decide +kernel
theorem d_Hours_beginOf_62 : decode prog_2_method_13_code 62 = .ok (.istore 5, 2) := by decide +kernel
theorem d_Hours_beginOf_64 : decode prog_2_method_13_code 64 = .ok (.iload 5, 2) := by decide +kernel
theorem d_Hours_beginOf_66 : decode prog_2_method_13_code 66 = .ok (.aload 4, 2) := by decide +kernel
theorem d_Hours_beginOf_68 : decode prog_2_method_13_code 68 = .ok (.invokevirtual 30, 3) := by decide +kernel
theorem d_Hours_beginOf_71 : decode prog_2_method_13_code 71 = .ok (.if_icmp .ge 50, 3) := by decide +kernel
theorem d_Hours_beginOf_74 : decode prog_2_method_13_code 74 = .ok (.aload 4, 2) := by decide +kernel
theorem d_Hours_beginOf_76 : decode prog_2_method_13_code 76 = .ok (.iload 5, 2) := by decide +kernel
theorem d_Hours_beginOf_78 : decode prog_2_method_13_code 78 = .ok (.invokevirtual 70, 3) := by decide +kernel
theorem d_Hours_beginOf_81 : decode prog_2_method_13_code 81 = .ok (.checkcast 74, 3) := by decide +kernel
theorem d_Hours_beginOf_84 : decode prog_2_method_13_code 84 = .ok (.astore 6, 2) := by decide +kernel
theorem d_Hours_beginOf_86 : decode prog_2_method_13_code 86 = .ok (.aload 6, 2) := by decide +kernel
theorem d_Hours_beginOf_88 : decode prog_2_method_13_code 88 = .ok (.aload_n 1, 1) := by decide +kernel
theorem d_Hours_beginOf_89 : decode prog_2_method_13_code 89 = .ok (.if_acmp .ne 5, 3) := by decide +kernel
theorem d_Hours_beginOf_92 : decode prog_2_method_13_code 92 = .ok (.iload_n 3, 1) := by decide +kernel
theorem d_Hours_beginOf_93 : decode prog_2_method_13_code 93 = .ok (.ireturn, 1) := by decide +kernel
theorem d_Hours_beginOf_94 : decode prog_2_method_13_code 94 = .ok (.iload_n 3, 1) := by decide +kernel
theorem d_Hours_beginOf_95 : decode prog_2_method_13_code 95 = .ok (.aload 6, 2) := by decide +kernel
theorem d_Hours_beginOf_97 : decode prog_2_method_13_code 97 = .ok (.iload_n 2, 1) := by decide +kernel
theorem d_Hours_beginOf_98 : decode prog_2_method_13_code 98 = .ok (.invokestatic 103, 3) := by decide +kernel
theorem d_Hours_beginOf_101 : decode prog_2_method_13_code 101 = .ok (.ifCond .eq 11, 3) := by decide +kernel
theorem d_Hours_beginOf_104 : decode prog_2_method_13_code 104 = .ok (.aload 6, 2) := by decide +kernel
theorem d_Hours_beginOf_106 : decode prog_2_method_13_code 106 = .ok (.invokevirtual 107, 3) := by decide +kernel
theorem d_Hours_beginOf_109 : decode prog_2_method_13_code 109 = .ok (.goto 4, 3) := by decide +kernel
theorem d_Hours_beginOf_112 : decode prog_2_method_13_code 112 = .ok (.iconst 0, 1) := by decide +kernel
theorem d_Hours_beginOf_113 : decode prog_2_method_13_code 113 = .ok (.iadd, 1) := by decide +kernel
theorem d_Hours_beginOf_114 : decode prog_2_method_13_code 114 = .ok (.istore_n 3, 1) := by decide +kernel
theorem d_Hours_beginOf_115 : decode prog_2_method_13_code 115 = .ok (.iinc 5 1, 3) := by decide +kernel
theorem d_Hours_beginOf_118 : decode prog_2_method_13_code 118 = .ok (.goto (-54), 3) := by decide +kernel
theorem d_Hours_beginOf_121 : decode prog_2_method_13_code 121 = .ok (.iconst (-1), 1) := by decide +kernel
theorem d_Hours_beginOf_122 : decode prog_2_method_13_code 122 = .ok (.ireturn, 1) := by decide +kernel
theorem d_Hours_isLeft_0 : decode prog_2_method_14_code 0 = .ok (.aload_n 0, 1) := by decide +kernel
theorem d_Hours_isLeft_1 : decode prog_2_method_14_code 1 = .ok (.bipush 100, 2) := by decide +kernel
theorem d_Hours_isLeft_3 : decode prog_2_method_14_code 3 = .ok (.invokevirtual 76, 3) := by decide +kernel
theorem d_Hours_isLeft_6 : decode prog_2_method_14_code 6 = .ok (.ifCond .eq 15, 3) := by decide +kernel
theorem d_Hours_isLeft_9 : decode prog_2_method_14_code 9 = .ok (.aload_n 0, 1) := by decide +kernel
theorem d_Hours_isLeft_10 : decode prog_2_method_14_code 10 = .ok (.invokevirtual 92, 3) := by decide +kernel
theorem d_Hours_isLeft_13 : decode prog_2_method_14_code 13 = .ok (.iload_n 1, 1) := by decide +kernel
theorem d_Hours_isLeft_14 : decode prog_2_method_14_code 14 = .ok (.if_icmp .ne 7, 3) := by decide +kernel
theorem d_Hours_isLeft_17 : decode prog_2_method_14_code 17 = .ok (.iconst 1, 1) := by decide +kernel
theorem d_Hours_isLeft_18 : decode prog_2_method_14_code 18 = .ok (.goto 4, 3) := by decide +kernel
theorem d_Hours_isLeft_21 : decode prog_2_method_14_code 21 = .ok (.iconst 0, 1) := by decide +kernel
theorem d_Hours_isLeft_22 : decode prog_2_method_14_code 22 = .ok (.ireturn, 1) := by decide +kernel
theorem d_Hours_liveMinute_0 : decode prog_2_method_15_code 0 = .ok (.iconst 0, 1) := by decide +kernel
theorem d_Hours_liveMinute_1 : decode prog_2_method_15_code 1 = .ok (.istore_n 1, 1) := by decide +kernel
theorem d_Hours_liveMinute_2 : decode prog_2_method_15_code 2 = .ok (.iload_n 1, 1) := by decide +kernel
theorem d_Hours_liveMinute_3 : decode prog_2_method_15_code 3 = .ok (.aload_n 0, 1) := by decide +kernel
theorem d_Hours_liveMinute_4 : decode prog_2_method_15_code 4 = .ok (.getfield 18, 3) := by decide +kernel
theorem d_Hours_liveMinute_7 : decode prog_2_method_15_code 7 = .ok (.invokevirtual 30, 3) := by decide +kernel
theorem d_Hours_liveMinute_10 : decode prog_2_method_15_code 10 = .ok (.if_icmp .ge 25, 3) := by decide +kernel
theorem d_Hours_liveMinute_13 : decode prog_2_method_15_code 13 = .ok (.aload_n 0, 1) := by decide +kernel
theorem d_Hours_liveMinute_14 : decode prog_2_method_15_code 14 = .ok (.iload_n 1, 1) := by decide +kernel
theorem d_Hours_liveMinute_15 : decode prog_2_method_15_code 15 = .ok (.aload_n 0, 1) := by decide +kernel
theorem d_Hours_liveMinute_16 : decode prog_2_method_15_code 16 = .ok (.getfield 18, 3) := by decide +kernel
theorem d_Hours_liveMinute_19 : decode prog_2_method_15_code 19 = .ok (.iload_n 1, 1) := by decide +kernel
theorem d_Hours_liveMinute_20 : decode prog_2_method_15_code 20 = .ok (.invokevirtual 70, 3) := by decide +kernel
theorem d_Hours_liveMinute_23 : decode prog_2_method_15_code 23 = .ok (.checkcast 34, 3) := by decide +kernel
theorem d_Hours_liveMinute_26 : decode prog_2_method_15_code 26 = .ok (.invokevirtual 110, 3) := by decide +kernel
theorem d_Hours_liveMinute_29 : decode prog_2_method_15_code 29 = .ok (.iinc 1 1, 3) := by decide +kernel
theorem d_Hours_liveMinute_32 : decode prog_2_method_15_code 32 = .ok (.goto (-30), 3) := by decide +kernel
theorem d_Hours_liveMinute_35 : decode prog_2_method_15_code 35 = .ok (.aload_n 0, 1) := by decide +kernel
theorem d_Hours_liveMinute_36 : decode prog_2_method_15_code 36 = .ok (.dup, 1) := by decide +kernel
theorem d_Hours_liveMinute_37 : decode prog_2_method_15_code 37 = .ok (.getfield 43, 3) := by decide +kernel
theorem d_Hours_liveMinute_40 : decode prog_2_method_15_code 40 = .ok (.iconst 1, 1) := by decide +kernel
theorem d_Hours_liveMinute_41 : decode prog_2_method_15_code 41 = .ok (.iadd, 1) := by decide +kernel
theorem d_Hours_liveMinute_42 : decode prog_2_method_15_code 42 = .ok (.putfield 43, 3) := by decide +kernel
theorem d_Hours_liveMinute_45 : decode prog_2_method_15_code 45 = .ok (.iconst 0, 1) := by decide +kernel
theorem d_Hours_liveMinute_46 : decode prog_2_method_15_code 46 = .ok (.istore_n 1, 1) := by decide +kernel
theorem d_Hours_liveMinute_47 : decode prog_2_method_15_code 47 = .ok (.iload_n 1, 1) := by decide +kernel
theorem d_Hours_liveMinute_48 : decode prog_2_method_15_code 48 = .ok (.aload_n 0, 1) := by decide +kernel
theorem d_Hours_liveMinute_49 : decode prog_2_method_15_code 49 = .ok (.getfield 18, 3) := by decide +kernel
theorem d_Hours_liveMinute_52 : decode prog_2_method_15_code 52 = .ok (.invokevirtual 30, 3) := by decide +kernel
theorem d_Hours_liveMinute_55 : decode prog_2_method_15_code 55 = .ok (.if_icmp .ge 27, 3) := by decide +kernel
theorem d_Hours_liveMinute_58 : decode prog_2_method_15_code 58 = .ok (.aload_n 0, 1) := by decide +kernel
theorem d_Hours_liveMinute_59 : decode prog_2_method_15_code 59 = .ok (.getfield 18, 3) := by decide +kernel
theorem d_Hours_liveMinute_62 : decode prog_2_method_15_code 62 = .ok (.iload_n 1, 1) := by decide +kernel
theorem d_Hours_liveMinute_63 : decode prog_2_method_15_code 63 = .ok (.invokevirtual 70, 3) := by decide +kernel
theorem d_Hours_liveMinute_66 : decode prog_2_method_15_code 66 = .ok (.checkcast 34, 3) := by decide +kernel
theorem d_Hours_liveMinute_69 : decode prog_2_method_15_code 69 = .ok (.aload_n 0, 1) := by decide +kernel
theorem d_Hours_liveMinute_70 : decode prog_2_method_15_code 70 = .ok (.getfield 43, 3) := by decide +kernel
theorem d_Hours_liveMinute_73 : decode prog_2_method_15_code 73 = .ok (.invokevirtual 114, 3) := by decide +kernel
theorem d_Hours_liveMinute_76 : decode prog_2_method_15_code 76 = .ok (.iinc 1 1, 3) := by decide +kernel
theorem d_Hours_liveMinute_79 : decode prog_2_method_15_code 79 = .ok (.goto (-32), 3) := by decide +kernel
theorem d_Hours_liveMinute_82 : decode prog_2_method_15_code 82 = .ok (.aload_n 0, 1) := by decide +kernel
theorem d_Hours_liveMinute_83 : decode prog_2_method_15_code 83 = .ok (.invokevirtual 117, 3) := by decide +kernel
theorem d_Hours_liveMinute_86 : decode prog_2_method_15_code 86 = .ok (.ifCond .eq 7, 3) := by decide +kernel
theorem d_Hours_liveMinute_89 : decode prog_2_method_15_code 89 = .ok (.aload_n 0, 1) := by decide +kernel
theorem d_Hours_liveMinute_90 : decode prog_2_method_15_code 90 = .ok (.invokevirtual 120, 3) := by decide +kernel
theorem d_Hours_liveMinute_93 : decode prog_2_method_15_code 93 = .ok (.return_, 1) := by decide +kernel
theorem d_Hours_beginNext_0 : decode prog_2_method_16_code 0 = .ok (.aload_n 2, 1) := by decide +kernel
theorem d_Hours_beginNext_1 : decode prog_2_method_16_code 1 = .ok (.invokevirtual 84, 3) := by decide +kernel
theorem d_Hours_beginNext_4 : decode prog_2_method_16_code 4 = .ok (.ifCond .ne 18, 3) := by decide +kernel
theorem d_Hours_beginNext_7 : decode prog_2_method_16_code 7 = .ok (.aload_n 2, 1) := by decide +kernel
theorem d_Hours_beginNext_8 : decode prog_2_method_16_code 8 = .ok (.aload_n 0, 1) := by decide +kernel
theorem d_Hours_beginNext_9 : decode prog_2_method_16_code 9 = .ok (.getfield 43, 3) := by decide +kernel
theorem d_Hours_beginNext_12 : decode prog_2_method_16_code 12 = .ok (.invokevirtual 95, 3) := by decide +kernel
theorem d_Hours_beginNext_15 : decode prog_2_method_16_code 15 = .ok (.aload_n 0, 1) := by decide +kernel
theorem d_Hours_beginNext_16 : decode prog_2_method_16_code 16 = .ok (.getfield 43, 3) := by decide +kernel
theorem d_Hours_beginNext_19 : decode prog_2_method_16_code 19 = .ok (.if_icmp .eq 4, 3) := by decide +kernel
theorem d_Hours_beginNext_22 : decode prog_2_method_16_code 22 = .ok (.return_, 1) := by decide +kernel
theorem d_Hours_beginNext_23 : decode prog_2_method_16_code 23 = .ok (.aload_n 0, 1) := by decide +kernel
theorem d_Hours_beginNext_24 : decode prog_2_method_16_code 24 = .ok (.getfield 26, 3) := by decide +kernel
theorem d_Hours_beginNext_27 : decode prog_2_method_16_code 27 = .ok (.invokevirtual 99, 3) := by decide +kernel
theorem d_Hours_beginNext_30 : decode prog_2_method_16_code 30 = .ok (.astore_n 3, 1) := by decide +kernel
theorem d_Hours_beginNext_31 : decode prog_2_method_16_code 31 = .ok (.iconst 0, 1) := by decide +kernel
theorem d_Hours_beginNext_32 : decode prog_2_method_16_code 32 = .ok (.istore 4, 2) := by decide +kernel
theorem d_Hours_beginNext_34 : decode prog_2_method_16_code 34 = .ok (.iload 4, 2) := by decide +kernel
theorem d_Hours_beginNext_36 : decode prog_2_method_16_code 36 = .ok (.aload_n 3, 1) := by decide +kernel
theorem d_Hours_beginNext_37 : decode prog_2_method_16_code 37 = .ok (.invokevirtual 30, 3) := by decide +kernel
theorem d_Hours_beginNext_40 : decode prog_2_method_16_code 40 = .ok (.if_icmp .ge 44, 3) := by decide +kernel
theorem d_Hours_beginNext_43 : decode prog_2_method_16_code 43 = .ok (.aload_n 3, 1) := by decide +kernel
theorem d_Hours_beginNext_44 : decode prog_2_method_16_code 44 = .ok (.iload 4, 2) := by decide +kernel
theorem d_Hours_beginNext_46 : decode prog_2_method_16_code 46 = .ok (.invokevirtual 70, 3) := by decide +kernel
theorem d_Hours_beginNext_49 : decode prog_2_method_16_code 49 = .ok (.checkcast 74, 3) := by decide +kernel
theorem d_Hours_beginNext_52 : decode prog_2_method_16_code 52 = .ok (.iload_n 1, 1) := by decide +kernel
theorem d_Hours_beginNext_53 : decode prog_2_method_16_code 53 = .ok (.invokestatic 103, 3) := by decide +kernel
theorem d_Hours_beginNext_56 : decode prog_2_method_16_code 56 = .ok (.ifCond .eq 22, 3) := by decide +kernel
theorem d_Hours_beginNext_59 : decode prog_2_method_16_code 59 = .ok (.aload_n 2, 1) := by decide +kernel
theorem d_Hours_beginNext_60 : decode prog_2_method_16_code 60 = .ok (.aload_n 3, 1) := by decide +kernel
theorem d_Hours_beginNext_61 : decode prog_2_method_16_code 61 = .ok (.iload 4, 2) := by decide +kernel
theorem d_Hours_beginNext_63 : decode prog_2_method_16_code 63 = .ok (.invokevirtual 70, 3) := by decide +kernel
theorem d_Hours_beginNext_66 : decode prog_2_method_16_code 66 = .ok (.checkcast 74, 3) := by decide +kernel
theorem d_Hours_beginNext_69 : decode prog_2_method_16_code 69 = .ok (.iload_n 1, 1) := by decide +kernel
theorem d_Hours_beginNext_70 : decode prog_2_method_16_code 70 = .ok (.aload_n 0, 1) := by decide +kernel
theorem d_Hours_beginNext_71 : decode prog_2_method_16_code 71 = .ok (.getfield 43, 3) := by decide +kernel
theorem d_Hours_beginNext_74 : decode prog_2_method_16_code 74 = .ok (.invokevirtual 123, 3) := by decide +kernel
theorem d_Hours_beginNext_77 : decode prog_2_method_16_code 77 = .ok (.return_, 1) := by decide +kernel
theorem d_Hours_beginNext_78 : decode prog_2_method_16_code 78 = .ok (.iinc 4 1, 3) := by decide +kernel
theorem d_Hours_beginNext_81 : decode prog_2_method_16_code 81 = .ok (.goto (-47), 3) := by decide +kernel
theorem d_Hours_beginNext_84 : decode prog_2_method_16_code 84 = .ok (.return_, 1) := by decide +kernel
theorem d_Hours_loseTheRest_0 : decode prog_2_method_17_code 0 = .ok (.iconst 0, 1) := by decide +kernel
theorem d_Hours_loseTheRest_1 : decode prog_2_method_17_code 1 = .ok (.istore_n 1, 1) := by decide +kernel
theorem d_Hours_loseTheRest_2 : decode prog_2_method_17_code 2 = .ok (.iload_n 1, 1) := by decide +kernel
theorem d_Hours_loseTheRest_3 : decode prog_2_method_17_code 3 = .ok (.aload_n 0, 1) := by decide +kernel
theorem d_Hours_loseTheRest_4 : decode prog_2_method_17_code 4 = .ok (.getfield 9, 3) := by decide +kernel
theorem d_Hours_loseTheRest_7 : decode prog_2_method_17_code 7 = .ok (.invokevirtual 30, 3) := by decide +kernel
theorem d_Hours_loseTheRest_10 : decode prog_2_method_17_code 10 = .ok (.if_icmp .ge 46, 3) := by decide +kernel
theorem d_Hours_loseTheRest_13 : decode prog_2_method_17_code 13 = .ok (.aload_n 0, 1) := by decide +kernel
theorem d_Hours_loseTheRest_14 : decode prog_2_method_17_code 14 = .ok (.getfield 9, 3) := by decide +kernel
theorem d_Hours_loseTheRest_17 : decode prog_2_method_17_code 17 = .ok (.iload_n 1, 1) := by decide +kernel
theorem d_Hours_loseTheRest_18 : decode prog_2_method_17_code 18 = .ok (.invokevirtual 70, 3) := by decide +kernel
theorem d_Hours_loseTheRest_21 : decode prog_2_method_17_code 21 = .ok (.checkcast 74, 3) := by decide +kernel
theorem d_Hours_loseTheRest_24 : decode prog_2_method_17_code 24 = .ok (.astore_n 2, 1) := by decide +kernel
theorem d_Hours_loseTheRest_25 : decode prog_2_method_17_code 25 = .ok (.aload_n 2, 1) := by decide +kernel
theorem d_Hours_loseTheRest_26 : decode prog_2_method_17_code 26 = .ok (.bipush 100, 2) := by decide +kernel
theorem d_Hours_loseTheRest_28 : decode prog_2_method_17_code 28 = .ok (.invokevirtual 76, 3) := by decide +kernel
theorem d_Hours_loseTheRest_31 : decode prog_2_method_17_code 31 = .ok (.ifCond .eq 19, 3) := by decide +kernel
theorem d_Hours_loseTheRest_34 : decode prog_2_method_17_code 34 = .ok (.aload_n 2, 1) := by decide +kernel
theorem d_Hours_loseTheRest_35 : decode prog_2_method_17_code 35 = .ok (.sipush 500, 3) := by decide +kernel
theorem d_Hours_loseTheRest_38 : decode prog_2_method_17_code 38 = .ok (.aload_n 0, 1) := by decide +kernel
theorem d_Hours_loseTheRest_39 : decode prog_2_method_17_code 39 = .ok (.getfield 43, 3) := by decide +kernel
theorem d_Hours_loseTheRest_42 : decode prog_2_method_17_code 42 = .ok (.invokevirtual 127, 3) := by decide +kernel
theorem d_Hours_loseTheRest_45 : decode prog_2_method_17_code 45 = .ok (.aload_n 2, 1) := by decide +kernel
theorem d_Hours_loseTheRest_46 : decode prog_2_method_17_code 46 = .ok (.iconst (-1), 1) := by decide +kernel
theorem d_Hours_loseTheRest_47 : decode prog_2_method_17_code 47 = .ok (.invokevirtual 130, 3) := by decide +kernel
theorem d_Hours_loseTheRest_50 : decode prog_2_method_17_code 50 = .ok (.iinc 1 1, 3) := by decide +kernel
theorem d_Hours_loseTheRest_53 : decode prog_2_method_17_code 53 = .ok (.goto (-51), 3) := by decide +kernel
theorem d_Hours_loseTheRest_56 : decode prog_2_method_17_code 56 = .ok (.return_, 1) := by decide +kernel
theorem d_House_init_0 : decode prog_3_method_1_code 0 = .ok (.aload_n 0, 1) := by decide +kernel
theorem d_House_init_1 : decode prog_3_method_1_code 1 = .ok (.invokespecial 3, 3) := by decide +kernel
theorem d_House_init_4 : decode prog_3_method_1_code 4 = .ok (.aload_n 0, 1) := by decide +kernel
theorem d_House_init_5 : decode prog_3_method_1_code 5 = .ok (.bipush 20, 2) := by decide +kernel
theorem d_House_init_7 : decode prog_3_method_1_code 7 = .ok (.newarray .int, 2) := by decide +kernel
theorem d_House_init_9 : decode prog_3_method_1_code 9 = .ok (.putfield 9, 3) := by decide +kernel
theorem d_House_init_12 : decode prog_3_method_1_code 12 = .ok (.aload_n 0, 1) := by decide +kernel
theorem d_House_init_13 : decode prog_3_method_1_code 13 = .ok (.bipush 20, 2) := by decide +kernel
theorem d_House_init_15 : decode prog_3_method_1_code 15 = .ok (.newarray .int, 2) := by decide +kernel
theorem d_House_init_17 : decode prog_3_method_1_code 17 = .ok (.putfield 15, 3) := by decide +kernel
theorem d_House_init_20 : decode prog_3_method_1_code 20 = .ok (.aload_n 0, 1) := by decide +kernel
theorem d_House_init_21 : decode prog_3_method_1_code 21 = .ok (.bipush 20, 2) := by decide +kernel
theorem d_House_init_23 : decode prog_3_method_1_code 23 = .ok (.newarray .int, 2) := by decide +kernel
theorem d_House_init_25 : decode prog_3_method_1_code 25 = .ok (.putfield 18, 3) := by decide +kernel
theorem d_House_init_28 : decode prog_3_method_1_code 28 = .ok (.aload_n 0, 1) := by decide +kernel
theorem d_House_init_29 : decode prog_3_method_1_code 29 = .ok (.bipush 20, 2) := by decide +kernel
theorem d_House_init_31 : decode prog_3_method_1_code 31 = .ok (.newarray .boolean, 2) := by decide +kernel
theorem d_House_init_33 : decode prog_3_method_1_code 33 = .ok (.putfield 21, 3) := by decide +kernel
theorem d_House_init_36 : decode prog_3_method_1_code 36 = .ok (.aload_n 0, 1) := by decide +kernel
theorem d_House_init_37 : decode prog_3_method_1_code 37 = .ok (.bipush 12, 2) := by decide +kernel
theorem d_House_init_39 : decode prog_3_method_1_code 39 = .ok (.newarray .int, 2) := by decide +kernel
theorem d_House_init_41 : decode prog_3_method_1_code 41 = .ok (.putfield 25, 3) := by decide +kernel
theorem d_House_init_44 : decode prog_3_method_1_code 44 = .ok (.aload_n 0, 1) := by decide +kernel
theorem d_House_init_45 : decode prog_3_method_1_code 45 = .ok (.getfield 25, 3) := by decide +kernel
theorem d_House_init_48 : decode prog_3_method_1_code 48 = .ok (.iconst (-1), 1) := by decide +kernel
theorem d_House_init_49 : decode prog_3_method_1_code 49 = .ok (.invokestatic 28, 3) := by decide +kernel
theorem d_House_init_52 : decode prog_3_method_1_code 52 = .ok (.aload_n 0, 1) := by decide +kernel
theorem d_House_init_53 : decode prog_3_method_1_code 53 = .ok (.getfield 25, 3) := by decide +kernel
theorem d_House_init_56 : decode prog_3_method_1_code 56 = .ok (.iconst 0, 1) := by decide +kernel
theorem d_House_init_57 : decode prog_3_method_1_code 57 = .ok (.iconst 0, 1) := by decide +kernel
theorem d_House_init_58 : decode prog_3_method_1_code 58 = .ok (.iastore, 1) := by decide +kernel
theorem d_House_init_59 : decode prog_3_method_1_code 59 = .ok (.aload_n 0, 1) := by decide +kernel
theorem d_House_init_60 : decode prog_3_method_1_code 60 = .ok (.bipush 12, 2) := by decide +kernel
theorem d_House_init_62 : decode prog_3_method_1_code 62 = .ok (.newarray .int, 2) := by decide +kernel
theorem d_House_init_64 : decode prog_3_method_1_code 64 = .ok (.putfield 34, 3) := by decide +kernel
theorem d_House_init_67 : decode prog_3_method_1_code 67 = .ok (.aload_n 0, 1) := by decide +kernel
theorem d_House_init_68 : decode prog_3_method_1_code 68 = .ok (.getfield 34, 3) := by decide +kernel
theorem d_House_init_71 : decode prog_3_method_1_code 71 = .ok (.iconst (-1), 1) := by decide +kernel
theorem d_House_init_72 : decode prog_3_method_1_code 72 = .ok (.invokestatic 28, 3) := by decide +kernel
theorem d_House_init_75 : decode prog_3_method_1_code 75 = .ok (.return_, 1) := by decide +kernel
theorem d_House_doorCount_0 : decode prog_3_method_2_code 0 = .ok (.aload_n 0, 1) := by decide +kernel
theorem d_House_doorCount_1 : decode prog_3_method_2_code 1 = .ok (.getfield 37, 3) := by decide +kernel
theorem d_House_doorCount_4 : decode prog_3_method_2_code 4 = .ok (.ireturn, 1) := by decide +kernel
theorem d_House_hasDoor_0 : decode prog_3_method_3_code 0 = .ok (.iload_n 1, 1) := by decide +kernel
theorem d_House_hasDoor_1 : decode prog_3_method_3_code 1 = .ok (.iconst 0, 1) := by decide +kernel
theorem d_House_hasDoor_2 : decode prog_3_method_3_code 2 = .ok (.aload_n 0, 1) := by decide +kernel
theorem d_House_hasDoor_3 : decode prog_3_method_3_code 3 = .ok (.getfield 37, 3) := by decide +kernel
theorem d_House_hasDoor_6 : decode prog_3_method_3_code 6 = .ok (.iconst 1, 1) := by decide +kernel
theorem d_House_hasDoor_7 : decode prog_3_method_3_code 7 = .ok (.isub, 1) := by decide +kernel
theorem d_House_hasDoor_8 : decode prog_3_method_3_code 8 = .ok (.invokestatic 41, 3) := by decide +kernel
theorem d_House_hasDoor_11 : decode prog_3_method_3_code 11 = .ok (.ireturn, 1) := by decide +kernel
theorem d_House_addDoor_0 : decode prog_3_method_4_code 0 = .ok (.aload_n 0, 1) := by decide +kernel
theorem d_House_addDoor_1 : decode prog_3_method_4_code 1 = .ok (.getfield 37, 3) := by decide +kernel
theorem d_House_addDoor_4 : decode prog_3_method_4_code 4 = .ok (.iconst 0, 1) := by decide +kernel
theorem d_House_addDoor_5 : decode prog_3_method_4_code 5 = .ok (.bipush 19, 2) := by decide +kernel
theorem d_House_addDoor_7 : decode prog_3_method_4_code 7 = .ok (.invokestatic 41, 3) := by decide +kernel
theorem d_House_addDoor_10 : decode prog_3_method_4_code 10 = .ok (.ifCond .eq 17, 3) := by decide +kernel
theorem d_House_addDoor_13 : decode prog_3_method_4_code 13 = .ok (.iload_n 1, 1) := by decide +kernel
theorem d_House_addDoor_14 : decode prog_3_method_4_code 14 = .ok (.invokestatic 45, 3) := by decide +kernel
theorem d_House_addDoor_17 : decode prog_3_method_4_code 17 = .ok (.ifCond .eq 10, 3) := by decide +kernel
theorem d_House_addDoor_20 : decode prog_3_method_4_code 20 = .ok (.iload_n 2, 1) := by decide +kernel
theorem d_House_addDoor_21 : decode prog_3_method_4_code 21 = .ok (.invokestatic 45, 3) := by decide +kernel
theorem d_House_addDoor_24 : decode prog_3_method_4_code 24 = .ok (.ifCond .ne 5, 3) := by decide +kernel
theorem d_House_addDoor_27 : decode prog_3_method_4_code 27 = .ok (.iconst (-1), 1) := by decide +kernel
theorem d_House_addDoor_28 : decode prog_3_method_4_code 28 = .ok (.ireturn, 1) := by decide +kernel
theorem d_House_addDoor_29 : decode prog_3_method_4_code 29 = .ok (.aload_n 0, 1) := by decide +kernel
theorem d_House_addDoor_30 : decode prog_3_method_4_code 30 = .ok (.getfield 9, 3) := by decide +kernel
theorem d_House_addDoor_33 : decode prog_3_method_4_code 33 = .ok (.aload_n 0, 1) := by decide +kernel
theorem d_House_addDoor_34 : decode prog_3_method_4_code 34 = .ok (.getfield 37, 3) := by decide +kernel
theorem d_House_addDoor_37 : decode prog_3_method_4_code 37 = .ok (.iload_n 1, 1) := by decide +kernel
theorem d_House_addDoor_38 : decode prog_3_method_4_code 38 = .ok (.iastore, 1) := by decide +kernel
theorem d_House_addDoor_39 : decode prog_3_method_4_code 39 = .ok (.aload_n 0, 1) := by decide +kernel
theorem d_House_addDoor_40 : decode prog_3_method_4_code 40 = .ok (.getfield 15, 3) := by decide +kernel
theorem d_House_addDoor_43 : decode prog_3_method_4_code 43 = .ok (.aload_n 0, 1) := by decide +kernel
theorem d_House_addDoor_44 : decode prog_3_method_4_code 44 = .ok (.getfield 37, 3) := by decide +kernel
theorem d_House_addDoor_47 : decode prog_3_method_4_code 47 = .ok (.iload_n 2, 1) := by decide +kernel
theorem d_House_addDoor_48 : decode prog_3_method_4_code 48 = .ok (.iastore, 1) := by decide +kernel
theorem d_House_addDoor_49 : decode prog_3_method_4_code 49 = .ok (.aload_n 0, 1) := by decide +kernel
theorem d_House_addDoor_50 : decode prog_3_method_4_code 50 = .ok (.getfield 18, 3) := by decide +kernel
theorem d_House_addDoor_53 : decode prog_3_method_4_code 53 = .ok (.aload_n 0, 1) := by decide +kernel
theorem d_House_addDoor_54 : decode prog_3_method_4_code 54 = .ok (.getfield 37, 3) := by decide +kernel
theorem d_House_addDoor_57 : decode prog_3_method_4_code 57 = .ok (.iload_n 3, 1) := by decide +kernel
theorem d_House_addDoor_58 : decode prog_3_method_4_code 58 = .ok (.iastore, 1) := by decide +kernel
theorem d_House_addDoor_59 : decode prog_3_method_4_code 59 = .ok (.aload_n 0, 1) := by decide +kernel
theorem d_House_addDoor_60 : decode prog_3_method_4_code 60 = .ok (.dup, 1) := by decide +kernel
theorem d_House_addDoor_61 : decode prog_3_method_4_code 61 = .ok (.getfield 37, 3) := by decide +kernel
theorem d_House_addDoor_64 : decode prog_3_method_4_code 64 = .ok (.iconst 1, 1) := by decide +kernel
theorem d_House_addDoor_65 : decode prog_3_method_4_code 65 = .ok (.iadd, 1) := by decide +kernel
theorem d_House_addDoor_66 : decode prog_3_method_4_code 66 = .ok (.putfield 37, 3) := by decide +kernel
theorem d_House_addDoor_69 : decode prog_3_method_4_code 69 = .ok (.aload_n 0, 1) := by decide +kernel
theorem d_House_addDoor_70 : decode prog_3_method_4_code 70 = .ok (.invokevirtual 49, 3) := by decide +kernel
theorem d_House_addDoor_73 : decode prog_3_method_4_code 73 = .ok (.aload_n 0, 1) := by decide +kernel
theorem d_House_addDoor_74 : decode prog_3_method_4_code 74 = .ok (.getfield 37, 3) := by decide +kernel
theorem d_House_addDoor_77 : decode prog_3_method_4_code 77 = .ok (.iconst 1, 1) := by decide +kernel
theorem d_House_addDoor_78 : decode prog_3_method_4_code 78 = .ok (.isub, 1) := by decide +kernel
theorem d_House_addDoor_79 : decode prog_3_method_4_code 79 = .ok (.ireturn, 1) := by decide +kernel
theorem d_House_isBlocked_0 : decode prog_3_method_5_code 0 = .ok (.iload_n 1, 1) := by decide +kernel
theorem d_House_isBlocked_1 : decode prog_3_method_5_code 1 = .ok (.iconst 0, 1) := by decide +kernel
theorem d_House_isBlocked_2 : decode prog_3_method_5_code 2 = .ok (.bipush 19, 2) := by decide +kernel
theorem d_House_isBlocked_4 : decode prog_3_method_5_code 4 = .ok (.invokestatic 41, 3) := by decide +kernel
theorem d_House_isBlocked_7 : decode prog_3_method_5_code 7 = .ok (.ifCond .eq 16, 3) := by decide +kernel
theorem d_House_isBlocked_10 : decode prog_3_method_5_code 10 = .ok (.aload_n 0, 1) := by decide +kernel
theorem d_House_isBlocked_11 : decode prog_3_method_5_code 11 = .ok (.getfield 21, 3) := by decide +kernel
theorem d_House_isBlocked_14 : decode prog_3_method_5_code 14 = .ok (.iload_n 1, 1) := by decide +kernel
theorem d_House_isBlocked_15 : decode prog_3_method_5_code 15 = .ok (.baload, 1) := by decide +kernel
theorem d_House_isBlocked_16 : decode prog_3_method_5_code 16 = .ok (.ifCond .eq 7, 3) := by decide +kernel
theorem d_House_isBlocked_19 : decode prog_3_method_5_code 19 = .ok (.iconst 1, 1) := by decide +kernel
theorem d_House_isBlocked_20 : decode prog_3_method_5_code 20 = .ok (.goto 4, 3) := by decide +kernel
theorem d_House_isBlocked_23 : decode prog_3_method_5_code 23 = .ok (.iconst 0, 1) := by decide +kernel
theorem d_House_isBlocked_24 : decode prog_3_method_5_code 24 = .ok (.ireturn, 1) := by decide +kernel
theorem d_House_blockDoor_0 : decode prog_3_method_6_code 0 = .ok (.iload_n 1, 1) := by decide +kernel
theorem d_House_blockDoor_1 : decode prog_3_method_6_code 1 = .ok (.iconst 0, 1) := by decide +kernel
theorem d_House_blockDoor_2 : decode prog_3_method_6_code 2 = .ok (.bipush 19, 2) := by decide +kernel
theorem d_House_blockDoor_4 : decode prog_3_method_6_code 4 = .ok (.invokestatic 41, 3) := by decide +kernel
theorem d_House_blockDoor_7 : decode prog_3_method_6_code 7 = .ok (.ifCond .eq 14, 3) := by decide +kernel
theorem d_House_blockDoor_10 : decode prog_3_method_6_code 10 = .ok (.aload_n 0, 1) := by decide +kernel
theorem d_House_blockDoor_11 : decode prog_3_method_6_code 11 = .ok (.getfield 21, 3) := by decide +kernel
theorem d_House_blockDoor_14 : decode prog_3_method_6_code 14 = .ok (.iload_n 1, 1) := by decide +kernel
theorem d_House_blockDoor_15 : decode prog_3_method_6_code 15 = .ok (.iconst 1, 1) := by decide +kernel
theorem d_House_blockDoor_16 : decode prog_3_method_6_code 16 = .ok (.bastore, 1) := by decide +kernel
theorem d_House_blockDoor_17 : decode prog_3_method_6_code 17 = .ok (.aload_n 0, 1) := by decide +kernel
theorem d_House_blockDoor_18 : decode prog_3_method_6_code 18 = .ok (.invokevirtual 49, 3) := by decide +kernel
theorem d_House_blockDoor_21 : decode prog_3_method_6_code 21 = .ok (.return_, 1) := by decide +kernel
theorem d_House_wayTo_0 : decode prog_3_method_7_code 0 = .ok (.iload_n 1, 1) := by decide +kernel
theorem d_House_wayTo_1 : decode prog_3_method_7_code 1 = .ok (.invokestatic 45, 3) := by decide +kernel
theorem d_House_wayTo_4 : decode prog_3_method_7_code 4 = .ok (.ifCond .eq 12, 3) := by decide +kernel
theorem d_House_wayTo_7 : decode prog_3_method_7_code 7 = .ok (.aload_n 0, 1) := by decide +kernel
theorem d_House_wayTo_8 : decode prog_3_method_7_code 8 = .ok (.getfield 25, 3) := by decide +kernel
theorem d_House_wayTo_11 : decode prog_3_method_7_code 11 = .ok (.iload_n 1, 1) := by decide +kernel
theorem d_House_wayTo_12 : decode prog_3_method_7_code 12 = .ok (.iaload, 1) := by decide +kernel
theorem d_House_wayTo_13 : decode prog_3_method_7_code 13 = .ok (.goto 4, 3) := by decide +kernel
theorem d_House_wayTo_16 : decode prog_3_method_7_code 16 = .ok (.iconst (-1), 1) := by decide +kernel
theorem d_House_wayTo_17 : decode prog_3_method_7_code 17 = .ok (.ireturn, 1) := by decide +kernel
theorem d_House_changeDanger_0 : decode prog_3_method_8_code 0 = .ok (.iload_n 1, 1) := by decide +kernel
theorem d_House_changeDanger_1 : decode prog_3_method_8_code 1 = .ok (.invokestatic 45, 3) := by decide +kernel
theorem d_House_changeDanger_4 : decode prog_3_method_8_code 4 = .ok (.ifCond .ne 5, 3) := by decide +kernel
theorem d_House_changeDanger_7 : decode prog_3_method_8_code 7 = .ok (.iconst (-1), 1) := by decide +kernel
theorem d_House_changeDanger_8 : decode prog_3_method_8_code 8 = .ok (.ireturn, 1) := by decide +kernel
theorem d_House_changeDanger_9 : decode prog_3_method_8_code 9 = .ok (.aload_n 0, 1) := by decide +kernel
theorem d_House_changeDanger_10 : decode prog_3_method_8_code 10 = .ok (.getfield 34, 3) := by decide +kernel
theorem d_House_changeDanger_13 : decode prog_3_method_8_code 13 = .ok (.iload_n 1, 1) := by decide +kernel
theorem d_House_changeDanger_14 : decode prog_3_method_8_code 14 = .ok (.iaload, 1) := by decide +kernel
theorem d_House_changeDanger_15 : decode prog_3_method_8_code 15 = .ok (.istore_n 3, 1) := by decide +kernel
theorem d_House_changeDanger_16 : decode prog_3_method_8_code 16 = .ok (.aload_n 0, 1) := by decide +kernel
theorem d_House_changeDanger_17 : decode prog_3_method_8_code 17 = .ok (.getfield 34, 3) := by decide +kernel
theorem d_House_changeDanger_20 : decode prog_3_method_8_code 20 = .ok (.iload_n 1, 1) := by decide +kernel
theorem d_House_changeDanger_21 : decode prog_3_method_8_code 21 = .ok (.iload_n 2, 1) := by decide +kernel
theorem d_House_changeDanger_22 : decode prog_3_method_8_code 22 = .ok (.iastore, 1) := by decide +kernel
theorem d_House_changeDanger_23 : decode prog_3_method_8_code 23 = .ok (.iload_n 3, 1) := by decide +kernel
theorem d_House_changeDanger_24 : decode prog_3_method_8_code 24 = .ok (.ireturn, 1) := by decide +kernel
theorem d_House_measure_0 : decode prog_3_method_9_code 0 = .ok (.aload_n 1, 1) := by decide +kernel
theorem d_House_measure_1 : decode prog_3_method_9_code 1 = .ok (.invokevirtual 52, 3) := by decide +kernel
theorem d_House_measure_4 : decode prog_3_method_9_code 4 = .ok (.istore_n 3, 1) := by decide +kernel
theorem d_House_measure_5 : decode prog_3_method_9_code 5 = .ok (.iload_n 3, 1) := by decide +kernel
theorem d_House_measure_6 : decode prog_3_method_9_code 6 = .ok (.iconst 0, 1) := by decide +kernel
theorem d_House_measure_7 : decode prog_3_method_9_code 7 = .ok (.bipush 11, 2) := by decide +kernel
theorem d_House_measure_9 : decode prog_3_method_9_code 9 = .ok (.invokestatic 41, 3) := by decide +kernel
theorem d_House_measure_12 : decode prog_3_method_9_code 12 = .ok (.ifCond .eq 13, 3) := by decide +kernel
theorem d_House_measure_15 : decode prog_3_method_9_code 15 = .ok (.aload_n 0, 1) := by decide +kernel
theorem d_House_measure_16 : decode prog_3_method_9_code 16 = .ok (.getfield 25, 3) := by decide +kernel
theorem d_House_measure_19 : decode prog_3_method_9_code 19 = .ok (.iload_n 3, 1) := by decide +kernel
theorem d_House_measure_20 : decode prog_3_method_9_code 20 = .ok (.iaload, 1) := by decide +kernel
theorem d_House_measure_21 : decode prog_3_method_9_code 21 = .ok (.iconst (-1), 1) := by decide +kernel
theorem d_House_measure_22 : decode prog_3_method_9_code 22 = .ok (.if_icmp .ne 5, 3) := by decide +kernel
theorem d_House_measure_25 : decode prog_3_method_9_code 25 = .ok (.iconst 0, 1) := by decide +kernel
theorem d_House_measure_26 : decode prog_3_method_9_code 26 = .ok (.ireturn, 1) := by decide +kernel
theorem d_House_measure_27 : decode prog_3_method_9_code 27 = .ok (.iconst 1, 1) := by decide +kernel
theorem d_House_measure_28 : decode prog_3_method_9_code 28 = .ok (.iconst 2, 1) := by decide +kernel
theorem d_House_measure_29 : decode prog_3_method_9_code 29 = .ok (.aload_n 0, 1) := by decide +kernel
theorem d_House_measure_30 : decode prog_3_method_9_code 30 = .ok (.getfield 25, 3) := by decide +kernel
theorem d_House_measure_33 : decode prog_3_method_9_code 33 = .ok (.iload_n 3, 1) := by decide +kernel
theorem d_House_measure_34 : decode prog_3_method_9_code 34 = .ok (.iaload, 1) := by decide +kernel
theorem d_House_measure_35 : decode prog_3_method_9_code 35 = .ok (.imul, 1) := by decide +kernel
theorem d_House_measure_36 : decode prog_3_method_9_code 36 = .ok (.aload_n 1, 1) := by decide +kernel
theorem d_House_measure_37 : decode prog_3_method_9_code 37 = .ok (.invokevirtual 58, 3) := by decide +kernel
theorem d_House_measure_40 : decode prog_3_method_9_code 40 = .ok (.iadd, 1) := by decide +kernel
theorem d_House_measure_41 : decode prog_3_method_9_code 41 = .ok (.invokestatic 61, 3) := by decide +kernel
theorem d_House_measure_44 : decode prog_3_method_9_code 44 = .ok (.istore 4, 2) := by decide +kernel
theorem d_House_measure_46 : decode prog_3_method_9_code 46 = .ok (.iload_n 2, 1) := by decide +kernel
theorem d_House_measure_47 : decode prog_3_method_9_code 47 = .ok (.iload 4, 2) := by decide +kernel
theorem d_House_measure_49 : decode prog_3_method_9_code 49 = .ok (.isub, 1) := by decide +kernel
theorem d_House_measure_50 : decode prog_3_method_9_code 50 = .ok (.istore 5, 2) := by decide +kernel
theorem d_House_measure_52 : decode prog_3_method_9_code 52 = .ok (.aload_n 0, 1) := by decide +kernel
theorem d_House_measure_53 : decode prog_3_method_9_code 53 = .ok (.getfield 34, 3) := by decide +kernel
theorem d_House_measure_56 : decode prog_3_method_9_code 56 = .ok (.iload_n 3, 1) := by decide +kernel
theorem d_House_measure_57 : decode prog_3_method_9_code 57 = .ok (.iaload, 1) := by decide +kernel
theorem d_House_measure_58 : decode prog_3_method_9_code 58 = .ok (.iconst (-1), 1) := by decide +kernel
theorem d_House_measure_59 : decode prog_3_method_9_code 59 = .ok (.if_icmp .eq 25, 3) := by decide +kernel
theorem d_House_measure_62 : decode prog_3_method_9_code 62 = .ok (.iload 5, 2) := by decide +kernel
theorem d_House_measure_64 : decode prog_3_method_9_code 64 = .ok (.aload_n 0, 1) := by decide +kernel
theorem d_House_measure_65 : decode prog_3_method_9_code 65 = .ok (.getfield 34, 3) := by decide +kernel
theorem d_House_measure_68 : decode prog_3_method_9_code 68 = .ok (.iload_n 3, 1) := by decide +kernel
theorem d_House_measure_69 : decode prog_3_method_9_code 69 = .ok (.iaload, 1) := by decide +kernel
theorem d_House_measure_70 : decode prog_3_method_9_code 70 = .ok (.iconst 1, 1) := by decide +kernel
theorem d_House_measure_71 : decode prog_3_method_9_code 71 = .ok (.isub, 1) := by decide +kernel
theorem d_House_measure_72 : decode prog_3_method_9_code 72 = .ok (.aload_n 0, 1) := by decide +kernel
theorem d_House_measure_73 : decode prog_3_method_9_code 73 = .ok (.getfield 25, 3) := by decide +kernel
theorem d_House_measure_76 : decode prog_3_method_9_code 76 = .ok (.iload_n 3, 1) := by decide +kernel
theorem d_House_measure_77 : decode prog_3_method_9_code 77 = .ok (.iaload, 1) := by decide +kernel
theorem d_House_measure_78 : decode prog_3_method_9_code 78 = .ok (.isub, 1) := by decide +kernel
theorem d_House_measure_79 : decode prog_3_method_9_code 79 = .ok (.invokestatic 67, 3) := by decide +kernel
theorem d_House_measure_82 : decode prog_3_method_9_code 82 = .ok (.istore 5, 2) := by decide +kernel
theorem d_House_measure_84 : decode prog_3_method_9_code 84 = .ok (.aload_n 1, 1) := by decide +kernel
theorem d_House_measure_85 : decode prog_3_method_9_code 85 = .ok (.iload 4, 2) := by decide +kernel
theorem d_House_measure_87 : decode prog_3_method_9_code 87 = .ok (.iload 5, 2) := by decide +kernel
theorem d_House_measure_89 : decode prog_3_method_9_code 89 = .ok (.invokevirtual 70, 3) := by decide +kernel
theorem d_House_measure_92 : decode prog_3_method_9_code 92 = .ok (.iconst 1, 1) := by decide +kernel
theorem d_House_measure_93 : decode prog_3_method_9_code 93 = .ok (.ireturn, 1) := by decide +kernel
theorem d_House_isRoom_0 : decode prog_3_method_10_code 0 = .ok (.iload_n 0, 1) := by decide +kernel
theorem d_House_isRoom_1 : decode prog_3_method_10_code 1 = .ok (.iconst 0, 1) := by decide +kernel
theorem d_House_isRoom_2 : decode prog_3_method_10_code 2 = .ok (.bipush 11, 2) := by decide +kernel
theorem d_House_isRoom_4 : decode prog_3_method_10_code 4 = .ok (.invokestatic 41, 3) := by decide +kernel
theorem d_House_isRoom_7 : decode prog_3_method_10_code 7 = .ok (.ireturn, 1) := by decide +kernel
theorem d_House_findWays_0 : decode prog_3_method_11_code 0 = .ok (.aload_n 0, 1) := by decide +kernel
theorem d_House_findWays_1 : decode prog_3_method_11_code 1 = .ok (.getfield 25, 3) := by decide +kernel
theorem d_House_findWays_4 : decode prog_3_method_11_code 4 = .ok (.iconst (-1), 1) := by decide +kernel
theorem d_House_findWays_5 : decode prog_3_method_11_code 5 = .ok (.invokestatic 28, 3) := by decide +kernel
theorem d_House_findWays_8 : decode prog_3_method_11_code 8 = .ok (.aload_n 0, 1) := by decide +kernel
theorem d_House_findWays_9 : decode prog_3_method_11_code 9 = .ok (.getfield 25, 3) := by decide +kernel
theorem d_House_findWays_12 : decode prog_3_method_11_code 12 = .ok (.iconst 0, 1) := by decide +kernel
theorem d_House_findWays_13 : decode prog_3_method_11_code 13 = .ok (.iconst 0, 1) := by decide +kernel
theorem d_House_findWays_14 : decode prog_3_method_11_code 14 = .ok (.iastore, 1) := by decide +kernel
theorem d_House_findWays_15 : decode prog_3_method_11_code 15 = .ok (.iconst 0, 1) := by decide +kernel
theorem d_House_findWays_16 : decode prog_3_method_11_code 16 = .ok (.istore_n 1, 1) := by decide +kernel
theorem d_House_findWays_17 : decode prog_3_method_11_code 17 = .ok (.iload_n 1, 1) := by decide +kernel
theorem d_House_findWays_18 : decode prog_3_method_11_code 18 = .ok (.bipush 12, 2) := by decide +kernel
theorem d_House_findWays_20 : decode prog_3_method_11_code 20 = .ok (.if_icmp .ge 84, 3) := by decide +kernel
theorem d_House_findWays_23 : decode prog_3_method_11_code 23 = .ok (.iconst 0, 1) := by decide +kernel
theorem d_House_findWays_24 : decode prog_3_method_11_code 24 = .ok (.istore_n 2, 1) := by decide +kernel
theorem d_House_findWays_25 : decode prog_3_method_11_code 25 = .ok (.iload_n 2, 1) := by decide +kernel
theorem d_House_findWays_26 : decode prog_3_method_11_code 26 = .ok (.aload_n 0, 1) := by decide +kernel
theorem d_House_findWays_27 : decode prog_3_method_11_code 27 = .ok (.getfield 37, 3) := by decide +kernel
theorem d_House_findWays_30 : decode prog_3_method_11_code 30 = .ok (.if_icmp .ge 68, 3) := by decide +kernel
theorem d_House_findWays_33 : decode prog_3_method_11_code 33 = .ok (.iload_n 2, 1) := by decide +kernel
theorem d_House_findWays_34 : decode prog_3_method_11_code 34 = .ok (.bipush 20, 2) := by decide +kernel
theorem d_House_findWays_36 : decode prog_3_method_11_code 36 = .ok (.if_icmp .ge 62, 3) := by decide +kernel
theorem d_House_findWays_39 : decode prog_3_method_11_code 39 = .ok (.aload_n 0, 1) := by decide +kernel
theorem d_House_findWays_40 : decode prog_3_method_11_code 40 = .ok (.getfield 21, 3) := by decide +kernel
theorem d_House_findWays_43 : decode prog_3_method_11_code 43 = .ok (.iload_n 2, 1) := by decide +kernel
theorem d_House_findWays_44 : decode prog_3_method_11_code 44 = .ok (.baload, 1) := by decide +kernel
theorem d_House_findWays_45 : decode prog_3_method_11_code 45 = .ok (.ifCond .ne 47, 3) := by decide +kernel
theorem d_House_findWays_48 : decode prog_3_method_11_code 48 = .ok (.aload_n 0, 1) := by decide +kernel
theorem d_House_findWays_49 : decode prog_3_method_11_code 49 = .ok (.aload_n 0, 1) := by decide +kernel
theorem d_House_findWays_50 : decode prog_3_method_11_code 50 = .ok (.getfield 9, 3) := by decide +kernel
theorem d_House_findWays_53 : decode prog_3_method_11_code 53 = .ok (.iload_n 2, 1) := by decide +kernel
theorem d_House_findWays_54 : decode prog_3_method_11_code 54 = .ok (.iaload, 1) := by decide +kernel
theorem d_House_findWays_55 : decode prog_3_method_11_code 55 = .ok (.aload_n 0, 1) := by decide +kernel
theorem d_House_findWays_56 : decode prog_3_method_11_code 56 = .ok (.getfield 15, 3) := by decide +kernel
theorem d_House_findWays_59 : decode prog_3_method_11_code 59 = .ok (.iload_n 2, 1) := by decide +kernel
theorem d_House_findWays_60 : decode prog_3_method_11_code 60 = .ok (.iaload, 1) := by decide +kernel
theorem d_House_findWays_61 : decode prog_3_method_11_code 61 = .ok (.aload_n 0, 1) := by decide +kernel
theorem d_House_findWays_62 : decode prog_3_method_11_code 62 = .ok (.getfield 18, 3) := by decide +kernel
theorem d_House_findWays_65 : decode prog_3_method_11_code 65 = .ok (.iload_n 2, 1) := by decide +kernel
theorem d_House_findWays_66 : decode prog_3_method_11_code 66 = .ok (.iaload, 1) := by decide +kernel
theorem d_House_findWays_67 : decode prog_3_method_11_code 67 = .ok (.invokevirtual 74, 3) := by decide +kernel
theorem d_House_findWays_70 : decode prog_3_method_11_code 70 = .ok (.aload_n 0, 1) := by decide +kernel
theorem d_House_findWays_71 : decode prog_3_method_11_code 71 = .ok (.aload_n 0, 1) := by decide +kernel
theorem d_House_findWays_72 : decode prog_3_method_11_code 72 = .ok (.getfield 15, 3) := by decide +kernel
theorem d_House_findWays_75 : decode prog_3_method_11_code 75 = .ok (.iload_n 2, 1) := by decide +kernel
theorem d_House_findWays_76 : decode prog_3_method_11_code 76 = .ok (.iaload, 1) := by decide +kernel
theorem d_House_findWays_77 : decode prog_3_method_11_code 77 = .ok (.aload_n 0, 1) := by decide +kernel
theorem d_House_findWays_78 : decode prog_3_method_11_code 78 = .ok (.getfield 9, 3) := by decide +kernel
theorem d_House_findWays_81 : decode prog_3_method_11_code 81 = .ok (.iload_n 2, 1) := by decide +kernel
theorem d_House_findWays_82 : decode prog_3_method_11_code 82 = .ok (.iaload, 1) := by decide +kernel
theorem d_House_findWays_83 : decode prog_3_method_11_code 83 = .ok (.aload_n 0, 1) := by decide +kernel
theorem d_House_findWays_84 : decode prog_3_method_11_code 84 = .ok (.getfield 18, 3) := by decide +kernel
theorem d_House_findWays_87 : decode prog_3_method_11_code 87 = .ok (.iload_n 2, 1) := by decide +kernel
theorem d_House_findWays_88 : decode prog_3_method_11_code 88 = .ok (.iaload, 1) := by decide +kernel
theorem d_House_findWays_89 : decode prog_3_method_11_code 89 = .ok (.invokevirtual 74, 3) := by decide +kernel
theorem d_House_findWays_92 : decode prog_3_method_11_code 92 = .ok (.iinc 2 1, 3) := by decide +kernel
theorem d_House_findWays_95 : decode prog_3_method_11_code 95 = .ok (.goto (-70), 3) := by decide +kernel
theorem d_House_findWays_98 : decode prog_3_method_11_code 98 = .ok (.iinc 1 1, 3) := by decide +kernel
theorem d_House_findWays_101 : decode prog_3_method_11_code 101 = .ok (.goto (-84), 3) := by decide +kernel
theorem d_House_findWays_104 : decode prog_3_method_11_code 104 = .ok (.return_, 1) := by decide +kernel
theorem d_House_shorten_0 : decode prog_3_method_12_code 0 = .ok (.iload_n 1, 1) := by decide +kernel
theorem d_House_shorten_1 : decode prog_3_method_12_code 1 = .ok (.invokestatic 45, 3) := by decide +kernel
theorem d_House_shorten_4 : decode prog_3_method_12_code 4 = .ok (.ifCond .eq 20, 3) := by decide +kernel
theorem d_House_shorten_7 : decode prog_3_method_12_code 7 = .ok (.iload_n 2, 1) := by decide +kernel
theorem d_House_shorten_8 : decode prog_3_method_12_code 8 = .ok (.invokestatic 45, 3) := by decide +kernel
theorem d_House_shorten_11 : decode prog_3_method_12_code 11 = .ok (.ifCond .eq 13, 3) := by decide +kernel
theorem d_House_shorten_14 : decode prog_3_method_12_code 14 = .ok (.aload_n 0, 1) := by decide +kernel
theorem d_House_shorten_15 : decode prog_3_method_12_code 15 = .ok (.getfield 25, 3) := by decide +kernel
theorem d_House_shorten_18 : decode prog_3_method_12_code 18 = .ok (.iload_n 1, 1) := by decide +kernel
theorem d_House_shorten_19 : decode prog_3_method_12_code 19 = .ok (.iaload, 1) := by decide +kernel
theorem d_House_shorten_20 : decode prog_3_method_12_code 20 = .ok (.iconst (-1), 1) := by decide +kernel
theorem d_House_shorten_21 : decode prog_3_method_12_code 21 = .ok (.if_icmp .ne 4, 3) := by decide +kernel
theorem d_House_shorten_24 : decode prog_3_method_12_code 24 = .ok (.return_, 1) := by decide +kernel
theorem d_House_shorten_25 : decode prog_3_method_12_code 25 = .ok (.aload_n 0, 1) := by decide +kernel
theorem d_House_shorten_26 : decode prog_3_method_12_code 26 = .ok (.getfield 25, 3) := by decide +kernel
theorem d_House_shorten_29 : decode prog_3_method_12_code 29 = .ok (.iload_n 1, 1) := by decide +kernel
theorem d_House_shorten_30 : decode prog_3_method_12_code 30 = .ok (.iaload, 1) := by decide +kernel
theorem d_House_shorten_31 : decode prog_3_method_12_code 31 = .ok (.iload_n 3, 1) := by decide +kernel
theorem d_House_shorten_32 : decode prog_3_method_12_code 32 = .ok (.iadd, 1) := by decide +kernel
theorem d_House_shorten_33 : decode prog_3_method_12_code 33 = .ok (.istore 4, 2) := by decide +kernel
theorem d_House_shorten_35 : decode prog_3_method_12_code 35 = .ok (.aload_n 0, 1) := by decide +kernel
theorem d_House_shorten_36 : decode prog_3_method_12_code 36 = .ok (.getfield 25, 3) := by decide +kernel
theorem d_House_shorten_39 : decode prog_3_method_12_code 39 = .ok (.iload_n 2, 1) := by decide +kernel
theorem d_House_shorten_40 : decode prog_3_method_12_code 40 = .ok (.iaload, 1) := by decide +kernel
theorem d_House_shorten_41 : decode prog_3_method_12_code 41 = .ok (.iconst (-1), 1) := by decide +kernel
theorem d_House_shorten_42 : decode prog_3_method_12_code 42 = .ok (.if_icmp .eq 14, 3) := by decide +kernel
theorem d_House_shorten_45 : decode prog_3_method_12_code 45 = .ok (.iload 4, 2) := by decide +kernel
theorem d_House_shorten_47 : decode prog_3_method_12_code 47 = .ok (.aload_n 0, 1) := by decide +kernel
theorem d_House_shorten_48 : decode prog_3_method_12_code 48 = .ok (.getfield 25, 3) := by decide +kernel
theorem d_House_shorten_51 : decode prog_3_method_12_code 51 = .ok (.iload_n 2, 1) := by decide +kernel
theorem d_House_shorten_52 : decode prog_3_method_12_code 52 = .ok (.iaload, 1) := by decide +kernel
theorem d_House_shorten_53 : decode prog_3_method_12_code 53 = .ok (.if_icmp .ge 11, 3) := by decide +kernel
theorem d_House_shorten_56 : decode prog_3_method_12_code 56 = .ok (.aload_n 0, 1) := by decide +kernel
theorem d_House_shorten_57 : decode prog_3_method_12_code 57 = .ok (.getfield 25, 3) := by decide +kernel
theorem d_House_shorten_60 : decode prog_3_method_12_code 60 = .ok (.iload_n 2, 1) := by decide +kernel
theorem d_House_shorten_61 : decode prog_3_method_12_code 61 = .ok (.iload 4, 2) := by decide +kernel
theorem d_House_shorten_63 : decode prog_3_method_12_code 63 = .ok (.iastore, 1) := by decide +kernel
theorem d_House_shorten_64 : decode prog_3_method_12_code 64 = .ok (.return_, 1) := by decide +kernel
theorem d_Label_init_0 : decode prog_4_method_1_code 0 = .ok (.aload_n 0, 1) := by decide +kernel
theorem d_Label_init_1 : decode prog_4_method_1_code 1 = .ok (.invokespecial 3, 3) := by decide +kernel
theorem d_Label_init_4 : decode prog_4_method_1_code 4 = .ok (.aload_n 0, 1) := by decide +kernel
theorem d_Label_init_5 : decode prog_4_method_1_code 5 = .ok (.iconst 5, 1) := by decide +kernel
theorem d_Label_init_6 : decode prog_4_method_1_code 6 = .ok (.newarray .int, 2) := by decide +kernel
theorem d_Label_init_8 : decode prog_4_method_1_code 8 = .ok (.putfield 11, 3) := by decide +kernel
theorem d_Label_init_11 : decode prog_4_method_1_code 11 = .ok (.return_, 1) := by decide +kernel
theorem d_Label_number_0 : decode prog_4_method_2_code 0 = .ok (.iload_n 1, 1) := by decide +kernel
theorem d_Label_number_1 : decode prog_4_method_2_code 1 = .ok (.iconst 0, 1) := by decide +kernel
theorem d_Label_number_2 : decode prog_4_method_2_code 2 = .ok (.iconst 4, 1) := by decide +kernel
theorem d_Label_number_3 : decode prog_4_method_2_code 3 = .ok (.invokestatic 15, 3) := by decide +kernel
theorem d_Label_number_6 : decode prog_4_method_2_code 6 = .ok (.ifCond .eq 12, 3) := by decide +kernel
theorem d_Label_number_9 : decode prog_4_method_2_code 9 = .ok (.aload_n 0, 1) := by decide +kernel
theorem d_Label_number_10 : decode prog_4_method_2_code 10 = .ok (.getfield 11, 3) := by decide +kernel
theorem d_Label_number_13 : decode prog_4_method_2_code 13 = .ok (.iload_n 1, 1) := by decide +kernel
theorem d_Label_number_14 : decode prog_4_method_2_code 14 = .ok (.iaload, 1) := by decide +kernel
theorem d_Label_number_15 : decode prog_4_method_2_code 15 = .ok (.goto 4, 3) := by decide +kernel
theorem d_Label_number_18 : decode prog_4_method_2_code 18 = .ok (.iconst (-1), 1) := by decide +kernel
theorem d_Label_number_19 : decode prog_4_method_2_code 19 = .ok (.ireturn, 1) := by decide +kernel
theorem d_Label_read_0 : decode prog_4_method_3_code 0 = .ok (.iconst 0, 1) := by decide +kernel
theorem d_Label_read_1 : decode prog_4_method_3_code 1 = .ok (.istore_n 2, 1) := by decide +kernel
theorem d_Label_read_2 : decode prog_4_method_3_code 2 = .ok (.iconst 0, 1) := by decide +kernel
theorem d_Label_read_3 : decode prog_4_method_3_code 3 = .ok (.istore_n 3, 1) := by decide +kernel
theorem d_Label_read_4 : decode prog_4_method_3_code 4 = .ok (.iload_n 3, 1) := by decide +kernel
theorem d_Label_read_5 : decode prog_4_method_3_code 5 = .ok (.iconst 5, 1) := by decide +kernel
theorem d_Label_read_6 : decode prog_4_method_3_code 6 = .ok (.if_icmp .ge 58, 3) := by decide +kernel
theorem d_Label_read_9 : decode prog_4_method_3_code 9 = .ok (.aload_n 1, 1) := by decide +kernel
theorem d_Label_read_10 : decode prog_4_method_3_code 10 = .ok (.iload_n 2, 1) := by decide +kernel
theorem d_Label_read_11 : decode prog_4_method_3_code 11 = .ok (.invokevirtual 19, 3) := by decide +kernel
theorem d_Label_read_14 : decode prog_4_method_3_code 14 = .ok (.ifCond .eq 17, 3) := by decide +kernel
theorem d_Label_read_17 : decode prog_4_method_3_code 17 = .ok (.aload_n 1, 1) := by decide +kernel
theorem d_Label_read_18 : decode prog_4_method_3_code 18 = .ok (.iload_n 2, 1) := by decide +kernel
theorem d_Label_read_19 : decode prog_4_method_3_code 19 = .ok (.invokestatic 25, 3) := by decide +kernel
theorem d_Label_read_22 : decode prog_4_method_3_code 22 = .ok (.ldc 29, 2) := by decide +kernel
theorem d_Label_read_24 : decode prog_4_method_3_code 24 = .ok (.iload_n 3, 1) := by decide +kernel
theorem d_Label_read_25 : decode prog_4_method_3_code 25 = .ok (.invokevirtual 31, 3) := by decide +kernel
theorem d_Label_read_28 : decode prog_4_method_3_code 28 = .ok (.if_icmp .eq 5, 3) := by decide +kernel
theorem d_Label_read_31 : decode prog_4_method_3_code 31 = .ok (.iload_n 2, 1) := by decide +kernel
theorem d_Label_read_32 : decode prog_4_method_3_code 32 = .ok (.ireturn, 1) := by decide +kernel
theorem d_Label_read_33 : decode prog_4_method_3_code 33 = .ok (.aload_n 0, 1) := by decide +kernel
theorem d_Label_read_34 : decode prog_4_method_3_code 34 = .ok (.aload_n 1, 1) := by decide +kernel
theorem d_Label_read_35 : decode prog_4_method_3_code 35 = .ok (.iload_n 2, 1) := by decide +kernel
theorem d_Label_read_36 : decode prog_4_method_3_code 36 = .ok (.iconst 1, 1) := by decide +kernel
theorem d_Label_read_37 : decode prog_4_method_3_code 37 = .ok (.iadd, 1) := by decide +kernel
theorem d_Label_read_38 : decode prog_4_method_3_code 38 = .ok (.iload_n 3, 1) := by decide +kernel
theorem d_Label_read_39 : decode prog_4_method_3_code 39 = .ok (.invokevirtual 37, 3) := by decide +kernel
theorem d_Label_read_42 : decode prog_4_method_3_code 42 = .ok (.istore 4, 2) := by decide +kernel
theorem d_Label_read_44 : decode prog_4_method_3_code 44 = .ok (.iload 4, 2) := by decide +kernel
theorem d_Label_read_46 : decode prog_4_method_3_code 46 = .ok (.iload_n 2, 1) := by decide +kernel
theorem d_Label_read_47 : decode prog_4_method_3_code 47 = .ok (.iconst 1, 1) := by decide +kernel
theorem d_Label_read_48 : decode prog_4_method_3_code 48 = .ok (.iadd, 1) := by decide +kernel
theorem d_Label_read_49 : decode prog_4_method_3_code 49 = .ok (.if_icmp .ne 6, 3) := by decide +kernel
theorem d_Label_read_52 : decode prog_4_method_3_code 52 = .ok (.iload 4, 2) := by decide +kernel
theorem d_Label_read_54 : decode prog_4_method_3_code 54 = .ok (.ireturn, 1) := by decide +kernel
theorem d_Label_read_55 : decode prog_4_method_3_code 55 = .ok (.iload 4, 2) := by decide +kernel
theorem d_Label_read_57 : decode prog_4_method_3_code 57 = .ok (.istore_n 2, 1) := by decide +kernel
theorem d_Label_read_58 : decode prog_4_method_3_code 58 = .ok (.iinc 3 1, 3) := by decide +kernel
theorem d_Label_read_61 : decode prog_4_method_3_code 61 = .ok (.goto (-57), 3) := by decide +kernel
theorem d_Label_read_64 : decode prog_4_method_3_code 64 = .ok (.aload_n 1, 1) := by decide +kernel
theorem d_Label_read_65 : decode prog_4_method_3_code 65 = .ok (.iload_n 2, 1) := by decide +kernel
theorem d_Label_read_66 : decode prog_4_method_3_code 66 = .ok (.invokevirtual 19, 3) := by decide +kernel
theorem d_Label_read_69 : decode prog_4_method_3_code 69 = .ok (.ifCond .eq 7, 3) := by decide +kernel
theorem d_Label_read_72 : decode prog_4_method_3_code 72 = .ok (.iload_n 2, 1) := by decide +kernel
theorem d_Label_read_73 : decode prog_4_method_3_code 73 = .ok (.goto 4, 3) := by decide +kernel
theorem d_Label_read_76 : decode prog_4_method_3_code 76 = .ok (.iconst (-1), 1) := by decide +kernel
theorem d_Label_read_77 : decode prog_4_method_3_code 77 = .ok (.ireturn, 1) := by decide +kernel
theorem d_Label_readNumber_0 : decode prog_4_method_4_code 0 = .ok (.aload_n 0, 1) := by decide +kernel
theorem d_Label_readNumber_1 : decode prog_4_method_4_code 1 = .ok (.getfield 11, 3) := by decide +kernel
theorem d_Label_readNumber_4 : decode prog_4_method_4_code 4 = .ok (.iload_n 3, 1) := by decide +kernel
theorem d_Label_readNumber_5 : decode prog_4_method_4_code 5 = .ok (.iconst (-1), 1) := by decide +kernel
theorem d_Label_readNumber_6 : decode prog_4_method_4_code 6 = .ok (.iastore, 1) := by decide +kernel
theorem d_Label_readNumber_7 : decode prog_4_method_4_code 7 = .ok (.iload_n 2, 1) := by decide +kernel
theorem d_Label_readNumber_8 : decode prog_4_method_4_code 8 = .ok (.istore 4, 2) := by decide +kernel
theorem d_Label_readNumber_10 : decode prog_4_method_4_code 10 = .ok (.iconst 0, 1) := by decide +kernel
theorem d_Label_readNumber_11 : decode prog_4_method_4_code 11 = .ok (.istore 5, 2) := by decide +kernel
theorem d_Label_readNumber_13 : decode prog_4_method_4_code 13 = .ok (.iload 5, 2) := by decide +kernel
theorem d_Label_readNumber_15 : decode prog_4_method_4_code 15 = .ok (.iconst 3, 1) := by decide +kernel
theorem d_Label_readNumber_16 : decode prog_4_method_4_code 16 = .ok (.if_icmp .ge 74, 3) := by decide +kernel
theorem d_Label_readNumber_19 : decode prog_4_method_4_code 19 = .ok (.aload_n 1, 1) := by decide +kernel
theorem d_Label_readNumber_20 : decode prog_4_method_4_code 20 = .ok (.iload 4, 2) := by decide +kernel
theorem d_Label_readNumber_22 : decode prog_4_method_4_code 22 = .ok (.invokevirtual 19, 3) := by decide +kernel
theorem d_Label_readNumber_25 : decode prog_4_method_4_code 25 = .ok (.ifCond .eq 24, 3) := by decide +kernel
theorem d_Label_readNumber_28 : decode prog_4_method_4_code 28 = .ok (.aload_n 0, 1) := by decide +kernel
theorem d_Label_readNumber_29 : decode prog_4_method_4_code 29 = .ok (.getfield 11, 3) := by decide +kernel
theorem d_Label_readNumber_32 : decode prog_4_method_4_code 32 = .ok (.iload_n 3, 1) := by decide +kernel
theorem d_Label_readNumber_33 : decode prog_4_method_4_code 33 = .ok (.iaload, 1) := by decide +kernel
theorem d_Label_readNumber_34 : decode prog_4_method_4_code 34 = .ok (.aload_n 1, 1) := by decide +kernel
theorem d_Label_readNumber_35 : decode prog_4_method_4_code 35 = .ok (.iload 4, 2) := by decide +kernel
theorem d_Label_readNumber_37 : decode prog_4_method_4_code 37 = .ok (.invokestatic 25, 3) := by decide +kernel
theorem d_Label_readNumber_40 : decode prog_4_method_4_code 40 = .ok (.bipush 48, 2) := by decide +kernel
theorem d_Label_readNumber_42 : decode prog_4_method_4_code 42 = .ok (.isub, 1) := by decide +kernel
theorem d_Label_readNumber_43 : decode prog_4_method_4_code 43 = .ok (.invokestatic 41, 3) := by decide +kernel
theorem d_Label_readNumber_46 : decode prog_4_method_4_code 46 = .ok (.goto 4, 3) := by decide +kernel
theorem d_Label_readNumber_49 : decode prog_4_method_4_code 49 = .ok (.iconst (-1), 1) := by decide +kernel
theorem d_Label_readNumber_50 : decode prog_4_method_4_code 50 = .ok (.istore 6, 2) := by decide +kernel
theorem d_Label_readNumber_52 : decode prog_4_method_4_code 52 = .ok (.iload 6, 2) := by decide +kernel
theorem d_Label_readNumber_54 : decode prog_4_method_4_code 54 = .ok (.getstatic 45, 3) := by decide +kernel
theorem d_Label_readNumber_57 : decode prog_4_method_4_code 57 = .ok (.iload_n 3, 1) := by decide +kernel
theorem d_Label_readNumber_58 : decode prog_4_method_4_code 58 = .ok (.iaload, 1) := by decide +kernel
theorem d_Label_readNumber_59 : decode prog_4_method_4_code 59 = .ok (.getstatic 48, 3) := by decide +kernel
theorem d_Label_readNumber_62 : decode prog_4_method_4_code 62 = .ok (.iload_n 3, 1) := by decide +kernel
theorem d_Label_readNumber_63 : decode prog_4_method_4_code 63 = .ok (.iaload, 1) := by decide +kernel
theorem d_Label_readNumber_64 : decode prog_4_method_4_code 64 = .ok (.invokestatic 15, 3) := by decide +kernel
theorem d_Label_readNumber_67 : decode prog_4_method_4_code 67 = .ok (.ifCond .ne 6, 3) := by decide +kernel
theorem d_Label_readNumber_70 : decode prog_4_method_4_code 70 = .ok (.iload 4, 2) := by decide +kernel
theorem d_Label_readNumber_72 : decode prog_4_method_4_code 72 = .ok (.ireturn, 1) := by decide +kernel
theorem d_Label_readNumber_73 : decode prog_4_method_4_code 73 = .ok (.aload_n 0, 1) := by decide +kernel
theorem d_Label_readNumber_74 : decode prog_4_method_4_code 74 = .ok (.getfield 11, 3) := by decide +kernel
theorem d_Label_readNumber_77 : decode prog_4_method_4_code 77 = .ok (.iload_n 3, 1) := by decide +kernel
theorem d_Label_readNumber_78 : decode prog_4_method_4_code 78 = .ok (.iload 6, 2) := by decide +kernel
theorem d_Label_readNumber_80 : decode prog_4_method_4_code 80 = .ok (.iastore, 1) := by decide +kernel
theorem d_Label_readNumber_81 : decode prog_4_method_4_code 81 = .ok (.iinc 4 1, 3) := by decide +kernel
theorem d_Label_readNumber_84 : decode prog_4_method_4_code 84 = .ok (.iinc 5 1, 3) := by decide +kernel
theorem d_Label_readNumber_87 : decode prog_4_method_4_code 87 = .ok (.goto (-74), 3) := by decide +kernel
theorem d_Label_readNumber_90 : decode prog_4_method_4_code 90 = .ok (.iload 4, 2) := by decide +kernel
theorem d_Label_readNumber_92 : decode prog_4_method_4_code 92 = .ok (.ireturn, 1) := by decide +kernel
theorem d_Label_withDigit_0 : decode prog_4_method_5_code 0 = .ok (.iload_n 1, 1) := by decide +kernel
theorem d_Label_withDigit_1 : decode prog_4_method_5_code 1 = .ok (.iconst 0, 1) := by decide +kernel
theorem d_Label_withDigit_2 : decode prog_4_method_5_code 2 = .ok (.bipush 9, 2) := by decide +kernel
theorem d_Label_withDigit_4 : decode prog_4_method_5_code 4 = .ok (.invokestatic 15, 3) := by decide +kernel
theorem d_Label_withDigit_7 : decode prog_4_method_5_code 7 = .ok (.ifCond .eq 7, 3) := by decide +kernel
theorem d_Label_withDigit_10 : decode prog_4_method_5_code 10 = .ok (.iload_n 0, 1) := by decide +kernel
theorem d_Label_withDigit_11 : decode prog_4_method_5_code 11 = .ok (.ifCond .ne 5, 3) := by decide +kernel
theorem d_Label_withDigit_14 : decode prog_4_method_5_code 14 = .ok (.iconst (-1), 1) := by decide +kernel
theorem d_Label_withDigit_15 : decode prog_4_method_5_code 15 = .ok (.ireturn, 1) := by decide +kernel
theorem d_Label_withDigit_16 : decode prog_4_method_5_code 16 = .ok (.iload_n 0, 1) := by decide +kernel
theorem d_Label_withDigit_17 : decode prog_4_method_5_code 17 = .ok (.iconst (-1), 1) := by decide +kernel
theorem d_Label_withDigit_18 : decode prog_4_method_5_code 18 = .ok (.if_icmp .ne 7, 3) := by decide +kernel
theorem d_Label_withDigit_21 : decode prog_4_method_5_code 21 = .ok (.iload_n 1, 1) := by decide +kernel
theorem d_Label_withDigit_22 : decode prog_4_method_5_code 22 = .ok (.goto 9, 3) := by decide +kernel
theorem d_Label_withDigit_25 : decode prog_4_method_5_code 25 = .ok (.iload_n 0, 1) := by decide +kernel
theorem d_Label_withDigit_26 : decode prog_4_method_5_code 26 = .ok (.bipush 10, 2) := by decide +kernel
theorem d_Label_withDigit_28 : decode prog_4_method_5_code 28 = .ok (.imul, 1) := by decide +kernel
theorem d_Label_withDigit_29 : decode prog_4_method_5_code 29 = .ok (.iload_n 1, 1) := by decide +kernel
theorem d_Label_withDigit_30 : decode prog_4_method_5_code 30 = .ok (.iadd, 1) := by decide +kernel
theorem d_Label_withDigit_31 : decode prog_4_method_5_code 31 = .ok (.ireturn, 1) := by decide +kernel
theorem d_Label_letterAt_0 : decode prog_4_method_6_code 0 = .ok (.aload_n 0, 1) := by decide +kernel
theorem d_Label_letterAt_1 : decode prog_4_method_6_code 1 = .ok (.iload_n 1, 1) := by decide +kernel
theorem d_Label_letterAt_2 : decode prog_4_method_6_code 2 = .ok (.invokevirtual 51, 3) := by decide +kernel
theorem d_Label_letterAt_5 : decode prog_4_method_6_code 5 = .ok (.l2i, 1) := by decide +kernel
theorem d_Label_letterAt_6 : decode prog_4_method_6_code 6 = .ok (.ireturn, 1) := by decide +kernel
theorem d_Place_init_0 : decode prog_5_method_1_code 0 = .ok (.aload_n 0, 1) := by decide +kernel
theorem d_Place_init_1 : decode prog_5_method_1_code 1 = .ok (.invokespecial 1, 3) := by decide +kernel
theorem d_Place_init_4 : decode prog_5_method_1_code 4 = .ok (.aload_n 0, 1) := by decide +kernel
theorem d_Place_init_5 : decode prog_5_method_1_code 5 = .ok (.iload_n 1, 1) := by decide +kernel
theorem d_Place_init_6 : decode prog_5_method_1_code 6 = .ok (.putfield 7, 3) := by decide +kernel
theorem d_Place_init_9 : decode prog_5_method_1_code 9 = .ok (.aload_n 0, 1) := by decide +kernel
theorem d_Place_init_10 : decode prog_5_method_1_code 10 = .ok (.iload_n 2, 1) := by decide +kernel
theorem d_Place_init_11 : decode prog_5_method_1_code 11 = .ok (.putfield 13, 3) := by decide +kernel
theorem d_Place_init_14 : decode prog_5_method_1_code 14 = .ok (.aload_n 0, 1) := by decide +kernel
theorem d_Place_init_15 : decode prog_5_method_1_code 15 = .ok (.iload_n 3, 1) := by decide +kernel
theorem d_Place_init_16 : decode prog_5_method_1_code 16 = .ok (.putfield 16, 3) := by decide +kernel
theorem d_Place_init_19 : decode prog_5_method_1_code 19 = .ok (.aload_n 0, 1) := by decide +kernel
theorem d_Place_init_20 : decode prog_5_method_1_code 20 = .ok (.new 19, 3) := by decide +kernel
theorem d_Place_init_23 : decode prog_5_method_1_code 23 = .ok (.dup, 1) := by decide +kernel
theorem d_Place_init_24 : decode prog_5_method_1_code 24 = .ok (.invokespecial 21, 3) := by decide +kernel
theorem d_Place_init_27 : decode prog_5_method_1_code 27 = .ok (.putfield 22, 3) := by decide +kernel
theorem d_Place_init_30 : decode prog_5_method_1_code 30 = .ok (.return_, 1) := by decide +kernel
theorem d_Place_hands_0 : decode prog_5_method_2_code 0 = .ok (.aload_n 0, 1) := by decide +kernel
theorem d_Place_hands_1 : decode prog_5_method_2_code 1 = .ok (.getfield 7, 3) := by decide +kernel
theorem d_Place_hands_4 : decode prog_5_method_2_code 4 = .ok (.ireturn, 1) := by decide +kernel
theorem d_Place_group_0 : decode prog_5_method_3_code 0 = .ok (.aload_n 0, 1) := by decide +kernel
theorem d_Place_group_1 : decode prog_5_method_3_code 1 = .ok (.getfield 13, 3) := by decide +kernel
theorem d_Place_group_4 : decode prog_5_method_3_code 4 = .ok (.ireturn, 1) := by decide +kernel
theorem d_Place_miles_0 : decode prog_5_method_4_code 0 = .ok (.aload_n 0, 1) := by decide +kernel
theorem d_Place_miles_1 : decode prog_5_method_4_code 1 = .ok (.getfield 16, 3) := by decide +kernel
theorem d_Place_miles_4 : decode prog_5_method_4_code 4 = .ok (.ireturn, 1) := by decide +kernel
theorem d_Place_takeAir_0 : decode prog_5_method_5_code 0 = .ok (.aload_n 0, 1) := by decide +kernel
theorem d_Place_takeAir_1 : decode prog_5_method_5_code 1 = .ok (.getfield 22, 3) := by decide +kernel
theorem d_Place_takeAir_4 : decode prog_5_method_5_code 4 = .ok (.aload_n 1, 1) := by decide +kernel
theorem d_Place_takeAir_5 : decode prog_5_method_5_code 5 = .ok (.invokevirtual 26, 3) := by decide +kernel
theorem d_Place_takeAir_8 : decode prog_5_method_5_code 8 = .ok (.aload_n 0, 1) := by decide +kernel
theorem d_Place_takeAir_9 : decode prog_5_method_5_code 9 = .ok (.getfield 22, 3) := by decide +kernel
theorem d_Place_takeAir_12 : decode prog_5_method_5_code 12 = .ok (.invokevirtual 30, 3) := by decide +kernel
theorem d_Place_takeAir_15 : decode prog_5_method_5_code 15 = .ok (.ireturn, 1) := by decide +kernel
theorem d_Place_airOf_0 : decode prog_5_method_6_code 0 = .ok (.aload_n 0, 1) := by decide +kernel
theorem d_Place_airOf_1 : decode prog_5_method_6_code 1 = .ok (.getfield 22, 3) := by decide +kernel
theorem d_Place_airOf_4 : decode prog_5_method_6_code 4 = .ok (.iload_n 1, 1) := by decide +kernel
theorem d_Place_airOf_5 : decode prog_5_method_6_code 5 = .ok (.invokevirtual 34, 3) := by decide +kernel
theorem d_Place_airOf_8 : decode prog_5_method_6_code 8 = .ok (.lreturn, 1) := by decide +kernel
theorem d_Planner_init_0 : decode prog_6_method_1_code 0 = .ok (.aload_n 0, 1) := by decide +kernel
theorem d_Planner_init_1 : decode prog_6_method_1_code 1 = .ok (.invokespecial 3, 3) := by decide +kernel
theorem d_Planner_init_4 : decode prog_6_method_1_code 4 = .ok (.aload_n 0, 1) := by decide +kernel
theorem d_Planner_init_5 : decode prog_6_method_1_code 5 = .ok (.aload_n 1, 1) := by decide +kernel
theorem d_Planner_init_6 : decode prog_6_method_1_code 6 = .ok (.putfield 9, 3) := by decide +kernel
theorem d_Planner_init_9 : decode prog_6_method_1_code 9 = .ok (.aload_n 0, 1) := by decide +kernel
theorem d_Planner_init_10 : decode prog_6_method_1_code 10 = .ok (.aload_n 2, 1) := by decide +kernel
theorem d_Planner_init_11 : decode prog_6_method_1_code 11 = .ok (.putfield 15, 3) := by decide +kernel
theorem d_Planner_init_14 : decode prog_6_method_1_code 14 = .ok (.aload_n 0, 1) := by decide +kernel
theorem d_Planner_init_15 : decode prog_6_method_1_code 15 = .ok (.aload_n 3, 1) := by decide +kernel
theorem d_Planner_init_16 : decode prog_6_method_1_code 16 = .ok (.putfield 18, 3) := by decide +kernel
theorem d_Planner_init_19 : decode prog_6_method_1_code 19 = .ok (.aload_n 0, 1) := by decide +kernel
theorem d_Planner_init_20 : decode prog_6_method_1_code 20 = .ok (.new 22, 3) := by decide +kernel
theorem d_Planner_init_23 : decode prog_6_method_1_code 23 = .ok (.dup, 1) := by decide +kernel
theorem d_Planner_init_24 : decode prog_6_method_1_code 24 = .ok (.invokespecial 24, 3) := by decide +kernel
theorem d_Planner_init_27 : decode prog_6_method_1_code 27 = .ok (.putfield 25, 3) := by decide +kernel
theorem d_Planner_init_30 : decode prog_6_method_1_code 30 = .ok (.aload_n 0, 1) := by decide +kernel
theorem d_Planner_init_31 : decode prog_6_method_1_code 31 = .ok (.new 22, 3) := by decide +kernel
theorem d_Planner_init_34 : decode prog_6_method_1_code 34 = .ok (.dup, 1) := by decide +kernel
theorem d_Planner_init_35 : decode prog_6_method_1_code 35 = .ok (.invokespecial 24, 3) := by decide +kernel
theorem d_Planner_init_38 : decode prog_6_method_1_code 38 = .ok (.putfield 28, 3) := by decide +kernel
theorem d_Planner_init_41 : decode prog_6_method_1_code 41 = .ok (.aload_n 0, 1) := by decide +kernel
theorem d_Planner_init_42 : decode prog_6_method_1_code 42 = .ok (.sipush 256, 3) := by decide +kernel
theorem d_Planner_init_45 : decode prog_6_method_1_code 45 = .ok (.newarray .long, 2) := by decide +kernel
theorem d_Planner_init_47 : decode prog_6_method_1_code 47 = .ok (.putfield 31, 3) := by decide +kernel
theorem d_Planner_init_50 : decode prog_6_method_1_code 50 = .ok (.aload_n 0, 1) := by decide +kernel
theorem d_Planner_init_51 : decode prog_6_method_1_code 51 = .ok (.sipush 256, 3) := by decide +kernel
theorem d_Planner_init_54 : decode prog_6_method_1_code 54 = .ok (.newarray .long, 2) := by decide +kernel
theorem d_Planner_init_56 : decode prog_6_method_1_code 56 = .ok (.putfield 35, 3) := by decide +kernel
theorem d_Planner_init_59 : decode prog_6_method_1_code 59 = .ok (.aload_n 0, 1) := by decide +kernel
theorem d_Planner_init_60 : decode prog_6_method_1_code 60 = .ok (.sipush 256, 3) := by decide +kernel
theorem d_Planner_init_63 : decode prog_6_method_1_code 63 = .ok (.newarray .int, 2) := by decide +kernel
theorem d_Planner_init_65 : decode prog_6_method_1_code 65 = .ok (.putfield 38, 3) := by decide +kernel
theorem d_Planner_init_68 : decode prog_6_method_1_code 68 = .ok (.return_, 1) := by decide +kernel
theorem d_Planner_jobs_0 : decode prog_6_method_2_code 0 = .ok (.aload_n 0, 1) := by decide +kernel
theorem d_Planner_jobs_1 : decode prog_6_method_2_code 1 = .ok (.getfield 25, 3) := by decide +kernel
theorem d_Planner_jobs_4 : decode prog_6_method_2_code 4 = .ok (.areturn, 1) := by decide +kernel
theorem d_Planner_gather_0 : decode prog_6_method_3_code 0 = .ok (.aload_n 0, 1) := by decide +kernel
theorem d_Planner_gather_1 : decode prog_6_method_3_code 1 = .ok (.getfield 25, 3) := by decide +kernel
theorem d_Planner_gather_4 : decode prog_6_method_3_code 4 = .ok (.invokevirtual 42, 3) := by decide +kernel
theorem d_Planner_gather_7 : decode prog_6_method_3_code 7 = .ok (.aload_n 0, 1) := by decide +kernel
theorem d_Planner_gather_8 : decode prog_6_method_3_code 8 = .ok (.getfield 28, 3) := by decide +kernel
theorem d_Planner_gather_11 : decode prog_6_method_3_code 11 = .ok (.invokevirtual 42, 3) := by decide +kernel
theorem d_Planner_gather_14 : decode prog_6_method_3_code 14 = .ok (.iconst 0, 1) := by decide +kernel
theorem d_Planner_gather_15 : decode prog_6_method_3_code 15 = .ok (.istore_n 2, 1) := by decide +kernel
theorem d_Planner_gather_16 : decode prog_6_method_3_code 16 = .ok (.iload_n 2, 1) := by decide +kernel
theorem d_Planner_gather_17 : decode prog_6_method_3_code 17 = .ok (.aload_n 0, 1) := by decide +kernel
theorem d_Planner_gather_18 : decode prog_6_method_3_code 18 = .ok (.getfield 9, 3) := by decide +kernel
theorem d_Planner_gather_21 : decode prog_6_method_3_code 21 = .ok (.invokevirtual 45, 3) := by decide +kernel
theorem d_Planner_gather_24 : decode prog_6_method_3_code 24 = .ok (.if_icmp .ge 68, 3) := by decide +kernel
theorem d_Planner_gather_27 : decode prog_6_method_3_code 27 = .ok (.aload_n 0, 1) := by decide +kernel
theorem d_Planner_gather_28 : decode prog_6_method_3_code 28 = .ok (.getfield 9, 3) := by decide +kernel
theorem d_Planner_gather_31 : decode prog_6_method_3_code 31 = .ok (.iload_n 2, 1) := by decide +kernel
theorem d_Planner_gather_32 : decode prog_6_method_3_code 32 = .ok (.invokevirtual 49, 3) := by decide +kernel
theorem d_Planner_gather_35 : decode prog_6_method_3_code 35 = .ok (.checkcast 53, 3) := by decide +kernel
theorem d_Planner_gather_38 : decode prog_6_method_3_code 38 = .ok (.astore_n 3, 1) := by decide +kernel
theorem d_Planner_gather_39 : decode prog_6_method_3_code 39 = .ok (.aload_n 3, 1) := by decide +kernel
theorem d_Planner_gather_40 : decode prog_6_method_3_code 40 = .ok (.bipush 100, 2) := by decide +kernel
theorem d_Planner_gather_42 : decode prog_6_method_3_code 42 = .ok (.invokevirtual 55, 3) := by decide +kernel
theorem d_Planner_gather_45 : decode prog_6_method_3_code 45 = .ok (.ifCond .eq 41, 3) := by decide +kernel
theorem d_Planner_gather_48 : decode prog_6_method_3_code 48 = .ok (.aload_n 0, 1) := by decide +kernel
theorem d_Planner_gather_49 : decode prog_6_method_3_code 49 = .ok (.getfield 18, 3) := by decide +kernel
theorem d_Planner_gather_52 : decode prog_6_method_3_code 52 = .ok (.aload_n 3, 1) := by decide +kernel
theorem d_Planner_gather_53 : decode prog_6_method_3_code 53 = .ok (.iload_n 1, 1) := by decide +kernel
theorem d_Planner_gather_54 : decode prog_6_method_3_code 54 = .ok (.invokevirtual 59, 3) := by decide +kernel
theorem d_Planner_gather_57 : decode prog_6_method_3_code 57 = .ok (.ifCond .eq 29, 3) := by decide +kernel
theorem d_Planner_gather_60 : decode prog_6_method_3_code 60 = .ok (.aload_n 0, 1) := by decide +kernel
theorem d_Planner_gather_61 : decode prog_6_method_3_code 61 = .ok (.getfield 25, 3) := by decide +kernel
theorem d_Planner_gather_64 : decode prog_6_method_3_code 64 = .ok (.aload_n 0, 1) := by decide +kernel
theorem d_Planner_gather_65 : decode prog_6_method_3_code 65 = .ok (.aload_n 3, 1) := by decide +kernel
theorem d_Planner_gather_66 : decode prog_6_method_3_code 66 = .ok (.invokevirtual 65, 3) := by decide +kernel
theorem d_Planner_gather_69 : decode prog_6_method_3_code 69 = .ok (.aload_n 3, 1) := by decide +kernel
theorem d_Planner_gather_70 : decode prog_6_method_3_code 70 = .ok (.invokevirtual 69, 3) := by decide +kernel
theorem d_Planner_gather_73 : decode prog_6_method_3_code 73 = .ok (.aload_n 0, 1) := by decide +kernel
theorem d_Planner_gather_74 : decode prog_6_method_3_code 74 = .ok (.getfield 28, 3) := by decide +kernel
theorem d_Planner_gather_77 : decode prog_6_method_3_code 77 = .ok (.aload_n 0, 1) := by decide +kernel
theorem d_Planner_gather_78 : decode prog_6_method_3_code 78 = .ok (.aload_n 3, 1) := by decide +kernel
theorem d_Planner_gather_79 : decode prog_6_method_3_code 79 = .ok (.invokevirtual 73, 3) := by decide +kernel
theorem d_Planner_gather_82 : decode prog_6_method_3_code 82 = .ok (.aload_n 3, 1) := by decide +kernel
theorem d_Planner_gather_83 : decode prog_6_method_3_code 83 = .ok (.invokevirtual 69, 3) := by decide +kernel
theorem d_Planner_gather_86 : decode prog_6_method_3_code 86 = .ok (.iinc 2 1, 3) := by decide +kernel
theorem d_Planner_gather_89 : decode prog_6_method_3_code 89 = .ok (.goto (-73), 3) := by decide +kernel
theorem d_Planner_gather_92 : decode prog_6_method_3_code 92 = .ok (.return_, 1) := by decide +kernel
theorem d_Planner_rankByDue_0 : decode prog_6_method_4_code 0 = .ok (.iconst 0, 1) := by decide +kernel
theorem d_Planner_rankByDue_1 : decode prog_6_method_4_code 1 = .ok (.istore_n 2, 1) := by decide +kernel
theorem d_Planner_rankByDue_2 : decode prog_6_method_4_code 2 = .ok (.iconst 0, 1) := by decide +kernel
theorem d_Planner_rankByDue_3 : decode prog_6_method_4_code 3 = .ok (.istore_n 3, 1) := by decide +kernel
theorem d_Planner_rankByDue_4 : decode prog_6_method_4_code 4 = .ok (.iload_n 3, 1) := by decide +kernel
theorem d_Planner_rankByDue_5 : decode prog_6_method_4_code 5 = .ok (.aload_n 0, 1) := by decide +kernel
theorem d_Planner_rankByDue_6 : decode prog_6_method_4_code 6 = .ok (.getfield 25, 3) := by decide +kernel
theorem d_Planner_rankByDue_9 : decode prog_6_method_4_code 9 = .ok (.invokevirtual 45, 3) := by decide +kernel
theorem d_Planner_rankByDue_12 : decode prog_6_method_4_code 12 = .ok (.if_icmp .ge 34, 3) := by decide +kernel
theorem d_Planner_rankByDue_15 : decode prog_6_method_4_code 15 = .ok (.aload_n 0, 1) := by decide +kernel
theorem d_Planner_rankByDue_16 : decode prog_6_method_4_code 16 = .ok (.getfield 25, 3) := by decide +kernel
theorem d_Planner_rankByDue_19 : decode prog_6_method_4_code 19 = .ok (.iload_n 3, 1) := by decide +kernel
theorem d_Planner_rankByDue_20 : decode prog_6_method_4_code 20 = .ok (.invokevirtual 49, 3) := by decide +kernel
theorem d_Planner_rankByDue_23 : decode prog_6_method_4_code 23 = .ok (.checkcast 53, 3) := by decide +kernel
theorem d_Planner_rankByDue_26 : decode prog_6_method_4_code 26 = .ok (.invokevirtual 76, 3) := by decide +kernel
theorem d_Planner_rankByDue_29 : decode prog_6_method_4_code 29 = .ok (.aload_n 1, 1) := by decide +kernel
theorem d_Planner_rankByDue_30 : decode prog_6_method_4_code 30 = .ok (.invokevirtual 76, 3) := by decide +kernel
theorem d_Planner_rankByDue_33 : decode prog_6_method_4_code 33 = .ok (.if_icmp .gt 7, 3) := by decide +kernel
theorem d_Planner_rankByDue_36 : decode prog_6_method_4_code 36 = .ok (.iload_n 3, 1) := by decide +kernel
theorem d_Planner_rankByDue_37 : decode prog_6_method_4_code 37 = .ok (.iconst 1, 1) := by decide +kernel
theorem d_Planner_rankByDue_38 : decode prog_6_method_4_code 38 = .ok (.iadd, 1) := by decide +kernel
theorem d_Planner_rankByDue_39 : decode prog_6_method_4_code 39 = .ok (.istore_n 2, 1) := by decide +kernel
theorem d_Planner_rankByDue_40 : decode prog_6_method_4_code 40 = .ok (.iinc 3 1, 3) := by decide +kernel
theorem d_Planner_rankByDue_43 : decode prog_6_method_4_code 43 = .ok (.goto (-39), 3) := by decide +kernel
theorem d_Planner_rankByDue_46 : decode prog_6_method_4_code 46 = .ok (.iload_n 2, 1) := by decide +kernel
theorem d_Planner_rankByDue_47 : decode prog_6_method_4_code 47 = .ok (.ireturn, 1) := by decide +kernel
theorem d_Planner_rankByRate_0 : decode prog_6_method_5_code 0 = .ok (.iconst 0, 1) := by decide +kernel
theorem d_Planner_rankByRate_1 : decode prog_6_method_5_code 1 = .ok (.istore_n 2, 1) := by decide +kernel
theorem d_Planner_rankByRate_2 : decode prog_6_method_5_code 2 = .ok (.iconst 0, 1) := by decide +kernel
theorem d_Planner_rankByRate_3 : decode prog_6_method_5_code 3 = .ok (.istore_n 3, 1) := by decide +kernel
theorem d_Planner_rankByRate_4 : decode prog_6_method_5_code 4 = .ok (.iload_n 3, 1) := by decide +kernel
theorem d_Planner_rankByRate_5 : decode prog_6_method_5_code 5 = .ok (.aload_n 0, 1) := by decide +kernel
theorem d_Planner_rankByRate_6 : decode prog_6_method_5_code 6 = .ok (.getfield 28, 3) := by decide +kernel
theorem d_Planner_rankByRate_9 : decode prog_6_method_5_code 9 = .ok (.invokevirtual 45, 3) := by decide +kernel
theorem d_Planner_rankByRate_12 : decode prog_6_method_5_code 12 = .ok (.if_icmp .ge 34, 3) := by decide +kernel
theorem d_Planner_rankByRate_15 : decode prog_6_method_5_code 15 = .ok (.aload_n 0, 1) := by decide +kernel
theorem d_Planner_rankByRate_16 : decode prog_6_method_5_code 16 = .ok (.getfield 28, 3) := by decide +kernel
theorem d_Planner_rankByRate_19 : decode prog_6_method_5_code 19 = .ok (.iload_n 3, 1) := by decide +kernel
theorem d_Planner_rankByRate_20 : decode prog_6_method_5_code 20 = .ok (.invokevirtual 49, 3) := by decide +kernel
theorem d_Planner_rankByRate_23 : decode prog_6_method_5_code 23 = .ok (.checkcast 53, 3) := by decide +kernel
theorem d_Planner_rankByRate_26 : decode prog_6_method_5_code 26 = .ok (.invokevirtual 79, 3) := by decide +kernel
theorem d_Planner_rankByRate_29 : decode prog_6_method_5_code 29 = .ok (.aload_n 1, 1) := by decide +kernel
theorem d_Planner_rankByRate_30 : decode prog_6_method_5_code 30 = .ok (.invokevirtual 79, 3) := by decide +kernel
theorem d_Planner_rankByRate_33 : decode prog_6_method_5_code 33 = .ok (.if_icmp .lt 7, 3) := by decide +kernel
theorem d_Planner_rankByRate_36 : decode prog_6_method_5_code 36 = .ok (.iload_n 3, 1) := by decide +kernel
theorem d_Planner_rankByRate_37 : decode prog_6_method_5_code 37 = .ok (.iconst 1, 1) := by decide +kernel
theorem d_Planner_rankByRate_38 : decode prog_6_method_5_code 38 = .ok (.iadd, 1) := by decide +kernel
theorem d_Planner_rankByRate_39 : decode prog_6_method_5_code 39 = .ok (.istore_n 2, 1) := by decide +kernel
theorem d_Planner_rankByRate_40 : decode prog_6_method_5_code 40 = .ok (.iinc 3 1, 3) := by decide +kernel
theorem d_Planner_rankByRate_43 : decode prog_6_method_5_code 43 = .ok (.goto (-39), 3) := by decide +kernel
theorem d_Planner_rankByRate_46 : decode prog_6_method_5_code 46 = .ok (.iload_n 2, 1) := by decide +kernel
theorem d_Planner_rankByRate_47 : decode prog_6_method_5_code 47 = .ok (.ireturn, 1) := by decide +kernel
theorem d_Planner_makeByRule_0 : decode prog_6_method_6_code 0 = .ok (.aload_n 0, 1) := by decide +kernel
theorem d_Planner_makeByRule_1 : decode prog_6_method_6_code 1 = .ok (.iload_n 2, 1) := by decide +kernel
theorem d_Planner_makeByRule_2 : decode prog_6_method_6_code 2 = .ok (.invokevirtual 82, 3) := by decide +kernel
theorem d_Planner_makeByRule_5 : decode prog_6_method_6_code 5 = .ok (.iconst 0, 1) := by decide +kernel
theorem d_Planner_makeByRule_6 : decode prog_6_method_6_code 6 = .ok (.istore_n 3, 1) := by decide +kernel
theorem d_Planner_makeByRule_7 : decode prog_6_method_6_code 7 = .ok (.iconst 0, 1) := by decide +kernel
theorem d_Planner_makeByRule_8 : decode prog_6_method_6_code 8 = .ok (.istore 4, 2) := by decide +kernel
theorem d_Planner_makeByRule_10 : decode prog_6_method_6_code 10 = .ok (.iload 4, 2) := by decide +kernel
theorem d_Planner_makeByRule_12 : decode prog_6_method_6_code 12 = .ok (.aload_n 0, 1) := by decide +kernel
theorem d_Planner_makeByRule_13 : decode prog_6_method_6_code 13 = .ok (.getfield 28, 3) := by decide +kernel
theorem d_Planner_makeByRule_16 : decode prog_6_method_6_code 16 = .ok (.invokevirtual 45, 3) := by decide +kernel
theorem d_Planner_makeByRule_19 : decode prog_6_method_6_code 19 = .ok (.if_icmp .ge 57, 3) := by decide +kernel
theorem d_Planner_makeByRule_22 : decode prog_6_method_6_code 22 = .ok (.aload_n 0, 1) := by decide +kernel
theorem d_Planner_makeByRule_23 : decode prog_6_method_6_code 23 = .ok (.getfield 28, 3) := by decide +kernel
theorem d_Planner_makeByRule_26 : decode prog_6_method_6_code 26 = .ok (.iload 4, 2) := by decide +kernel
theorem d_Planner_makeByRule_28 : decode prog_6_method_6_code 28 = .ok (.invokevirtual 49, 3) := by decide +kernel
theorem d_Planner_makeByRule_31 : decode prog_6_method_6_code 31 = .ok (.checkcast 53, 3) := by decide +kernel
theorem d_Planner_makeByRule_34 : decode prog_6_method_6_code 34 = .ok (.astore 5, 2) := by decide +kernel
theorem d_Planner_makeByRule_36 : decode prog_6_method_6_code 36 = .ok (.aload_n 0, 1) := by decide +kernel
theorem d_Planner_makeByRule_37 : decode prog_6_method_6_code 37 = .ok (.aload 5, 2) := by decide +kernel
theorem d_Planner_makeByRule_39 : decode prog_6_method_6_code 39 = .ok (.iload_n 1, 1) := by decide +kernel
theorem d_Planner_makeByRule_40 : decode prog_6_method_6_code 40 = .ok (.invokevirtual 86, 3) := by decide +kernel
theorem d_Planner_makeByRule_43 : decode prog_6_method_6_code 43 = .ok (.istore 6, 2) := by decide +kernel
theorem d_Planner_makeByRule_45 : decode prog_6_method_6_code 45 = .ok (.aload 5, 2) := by decide +kernel
theorem d_Planner_makeByRule_47 : decode prog_6_method_6_code 47 = .ok (.iload 6, 2) := by decide +kernel
theorem d_Planner_makeByRule_49 : decode prog_6_method_6_code 49 = .ok (.invokevirtual 90, 3) := by decide +kernel
theorem d_Planner_makeByRule_52 : decode prog_6_method_6_code 52 = .ok (.iload_n 3, 1) := by decide +kernel
theorem d_Planner_makeByRule_53 : decode prog_6_method_6_code 53 = .ok (.iload 6, 2) := by decide +kernel
theorem d_Planner_makeByRule_55 : decode prog_6_method_6_code 55 = .ok (.iconst (-1), 1) := by decide +kernel
theorem d_Planner_makeByRule_56 : decode prog_6_method_6_code 56 = .ok (.if_icmp .ne 7, 3) := by decide +kernel
theorem d_Planner_makeByRule_59 : decode prog_6_method_6_code 59 = .ok (.iconst 0, 1) := by decide +kernel
theorem d_Planner_makeByRule_60 : decode prog_6_method_6_code 60 = .ok (.goto 8, 3) := by decide +kernel
theorem d_Planner_makeByRule_63 : decode prog_6_method_6_code 63 = .ok (.aload 5, 2) := by decide +kernel
theorem d_Planner_makeByRule_65 : decode prog_6_method_6_code 65 = .ok (.invokevirtual 93, 3) := by decide +kernel
theorem d_Planner_makeByRule_68 : decode prog_6_method_6_code 68 = .ok (.iadd, 1) := by decide +kernel
theorem d_Planner_makeByRule_69 : decode prog_6_method_6_code 69 = .ok (.istore_n 3, 1) := by decide +kernel
theorem d_Planner_makeByRule_70 : decode prog_6_method_6_code 70 = .ok (.iinc 4 1, 3) := by decide +kernel
theorem d_Planner_makeByRule_73 : decode prog_6_method_6_code 73 = .ok (.goto (-63), 3) := by decide +kernel
theorem d_Planner_makeByRule_76 : decode prog_6_method_6_code 76 = .ok (.iload_n 3, 1) := by decide +kernel
theorem d_Planner_makeByRule_77 : decode prog_6_method_6_code 77 = .ok (.ireturn, 1) := by decide +kernel
theorem d_Planner_earliestTeam_0 : decode prog_6_method_7_code 0 = .ok (.iconst (-1), 1) := by decide +kernel
theorem d_Planner_earliestTeam_1 : decode prog_6_method_7_code 1 = .ok (.istore_n 3, 1) := by decide +kernel
theorem d_Planner_earliestTeam_2 : decode prog_6_method_7_code 2 = .ok (.iconst (-1), 1) := by decide +kernel
theorem d_Planner_earliestTeam_3 : decode prog_6_method_7_code 3 = .ok (.istore 4, 2) := by decide +kernel
theorem d_Planner_earliestTeam_5 : decode prog_6_method_7_code 5 = .ok (.iconst 0, 1) := by decide +kernel
theorem d_Planner_earliestTeam_6 : decode prog_6_method_7_code 6 = .ok (.istore 5, 2) := by decide +kernel
theorem d_Planner_earliestTeam_8 : decode prog_6_method_7_code 8 = .ok (.iload 5, 2) := by decide +kernel
theorem d_Planner_earliestTeam_10 : decode prog_6_method_7_code 10 = .ok (.aload_n 0, 1) := by decide +kernel
theorem d_Planner_earliestTeam_11 : decode prog_6_method_7_code 11 = .ok (.getfield 15, 3) := by decide +kernel
theorem d_Planner_earliestTeam_14 : decode prog_6_method_7_code 14 = .ok (.invokevirtual 45, 3) := by decide +kernel
theorem d_Planner_earliestTeam_17 : decode prog_6_method_7_code 17 = .ok (.if_icmp .ge 56, 3) := by decide +kernel
theorem d_Planner_earliestTeam_20 : decode prog_6_method_7_code 20 = .ok (.aload_n 0, 1) := by decide +kernel
theorem d_Planner_earliestTeam_21 : decode prog_6_method_7_code 21 = .ok (.iload 5, 2) := by decide +kernel
theorem d_Planner_earliestTeam_23 : decode prog_6_method_7_code 23 = .ok (.aload_n 0, 1) := by decide +kernel
theorem d_Planner_earliestTeam_24 : decode prog_6_method_7_code 24 = .ok (.getfield 15, 3) := by decide +kernel
theorem d_Planner_earliestTeam_27 : decode prog_6_method_7_code 27 = .ok (.iload 5, 2) := by decide +kernel
theorem d_Planner_earliestTeam_29 : decode prog_6_method_7_code 29 = .ok (.invokevirtual 49, 3) := by decide +kernel
theorem d_Planner_earliestTeam_32 : decode prog_6_method_7_code 32 = .ok (.checkcast 96, 3) := by decide +kernel
theorem d_Planner_earliestTeam_35 : decode prog_6_method_7_code 35 = .ok (.aload_n 1, 1) := by decide +kernel
theorem d_Planner_earliestTeam_36 : decode prog_6_method_7_code 36 = .ok (.iload_n 2, 1) := by decide +kernel
theorem d_Planner_earliestTeam_37 : decode prog_6_method_7_code 37 = .ok (.invokevirtual 98, 3) := by decide +kernel
theorem d_Planner_earliestTeam_40 : decode prog_6_method_7_code 40 = .ok (.istore 6, 2) := by decide +kernel
theorem d_Planner_earliestTeam_42 : decode prog_6_method_7_code 42 = .ok (.iload 6, 2) := by decide +kernel
theorem d_Planner_earliestTeam_44 : decode prog_6_method_7_code 44 = .ok (.iconst (-1), 1) := by decide +kernel
theorem d_Planner_earliestTeam_45 : decode prog_6_method_7_code 45 = .ok (.if_icmp .eq 22, 3) := by decide +kernel
theorem d_Planner_earliestTeam_48 : decode prog_6_method_7_code 48 = .ok (.iload_n 3, 1) := by decide +kernel
theorem d_Planner_earliestTeam_49 : decode prog_6_method_7_code 49 = .ok (.iconst (-1), 1) := by decide +kernel
theorem d_Planner_earliestTeam_50 : decode prog_6_method_7_code 50 = .ok (.if_icmp .eq 10, 3) := by decide +kernel
theorem d_Planner_earliestTeam_53 : decode prog_6_method_7_code 53 = .ok (.iload 6, 2) := by decide +kernel
theorem d_Planner_earliestTeam_55 : decode prog_6_method_7_code 55 = .ok (.iload 4, 2) := by decide +kernel
theorem d_Planner_earliestTeam_57 : decode prog_6_method_7_code 57 = .ok (.if_icmp .ge 10, 3) := by decide +kernel
theorem d_Planner_earliestTeam_60 : decode prog_6_method_7_code 60 = .ok (.iload 5, 2) := by decide +kernel
theorem d_Planner_earliestTeam_62 : decode prog_6_method_7_code 62 = .ok (.istore_n 3, 1) := by decide +kernel
theorem d_Planner_earliestTeam_63 : decode prog_6_method_7_code 63 = .ok (.iload 6, 2) := by decide +kernel
theorem d_Planner_earliestTeam_65 : decode prog_6_method_7_code 65 = .ok (.istore 4, 2) := by decide +kernel
theorem d_Planner_earliestTeam_67 : decode prog_6_method_7_code 67 = .ok (.iinc 5 1, 3) := by decide +kernel
theorem d_Planner_earliestTeam_70 : decode prog_6_method_7_code 70 = .ok (.goto (-62), 3) := by decide +kernel
theorem d_Planner_earliestTeam_73 : decode prog_6_method_7_code 73 = .ok (.iload_n 3, 1) := by decide +kernel
theorem d_Planner_earliestTeam_74 : decode prog_6_method_7_code 74 = .ok (.ireturn, 1) := by decide +kernel
theorem d_Planner_endWith_0 : decode prog_6_method_8_code 0 = .ok (.aload_n 2, 1) := by decide +kernel
theorem d_Planner_endWith_1 : decode prog_6_method_8_code 1 = .ok (.iload 4, 2) := by decide +kernel
theorem d_Planner_endWith_3 : decode prog_6_method_8_code 3 = .ok (.invokevirtual 102, 3) := by decide +kernel
theorem d_Planner_endWith_6 : decode prog_6_method_8_code 6 = .ok (.istore 5, 2) := by decide +kernel
theorem d_Planner_endWith_8 : decode prog_6_method_8_code 8 = .ok (.iconst 0, 1) := by decide +kernel
theorem d_Planner_endWith_9 : decode prog_6_method_8_code 9 = .ok (.istore 6, 2) := by decide +kernel
theorem d_Planner_endWith_11 : decode prog_6_method_8_code 11 = .ok (.iload 6, 2) := by decide +kernel
theorem d_Planner_endWith_13 : decode prog_6_method_8_code 13 = .ok (.aload_n 0, 1) := by decide +kernel
theorem d_Planner_endWith_14 : decode prog_6_method_8_code 14 = .ok (.getfield 25, 3) := by decide +kernel
theorem d_Planner_endWith_17 : decode prog_6_method_8_code 17 = .ok (.invokevirtual 45, 3) := by decide +kernel
theorem d_Planner_endWith_20 : decode prog_6_method_8_code 20 = .ok (.if_icmp .ge 72, 3) := by decide +kernel
theorem d_Planner_endWith_23 : decode prog_6_method_8_code 23 = .ok (.aload_n 0, 1) := by decide +kernel
theorem d_Planner_endWith_24 : decode prog_6_method_8_code 24 = .ok (.getfield 25, 3) := by decide +kernel
theorem d_Planner_endWith_27 : decode prog_6_method_8_code 27 = .ok (.iload 6, 2) := by decide +kernel
theorem d_Planner_endWith_29 : decode prog_6_method_8_code 29 = .ok (.invokevirtual 49, 3) := by decide +kernel
theorem d_Planner_endWith_32 : decode prog_6_method_8_code 32 = .ok (.checkcast 53, 3) := by decide +kernel
theorem d_Planner_endWith_35 : decode prog_6_method_8_code 35 = .ok (.astore 7, 2) := by decide +kernel
theorem d_Planner_endWith_37 : decode prog_6_method_8_code 37 = .ok (.aload 7, 2) := by decide +kernel
theorem d_Planner_endWith_39 : decode prog_6_method_8_code 39 = .ok (.aload_n 3, 1) := by decide +kernel
theorem d_Planner_endWith_40 : decode prog_6_method_8_code 40 = .ok (.if_acmp .eq 12, 3) := by decide +kernel
theorem d_Planner_endWith_43 : decode prog_6_method_8_code 43 = .ok (.aload 7, 2) := by decide +kernel
theorem d_Planner_endWith_45 : decode prog_6_method_8_code 45 = .ok (.invokevirtual 106, 3) := by decide +kernel
theorem d_Planner_endWith_48 : decode prog_6_method_8_code 48 = .ok (.iload_n 1, 1) := by decide +kernel
theorem d_Planner_endWith_49 : decode prog_6_method_8_code 49 = .ok (.if_icmp .ne 37, 3) := by decide +kernel
theorem d_Planner_endWith_52 : decode prog_6_method_8_code 52 = .ok (.aload 7, 2) := by decide +kernel
theorem d_Planner_endWith_54 : decode prog_6_method_8_code 54 = .ok (.invokevirtual 109, 3) := by decide +kernel
theorem d_Planner_endWith_57 : decode prog_6_method_8_code 57 = .ok (.aload_n 2, 1) := by decide +kernel
theorem d_Planner_endWith_58 : decode prog_6_method_8_code 58 = .ok (.invokevirtual 112, 3) := by decide +kernel
theorem d_Planner_endWith_61 : decode prog_6_method_8_code 61 = .ok (.if_icmp .gt 13, 3) := by decide +kernel
theorem d_Planner_endWith_64 : decode prog_6_method_8_code 64 = .ok (.iload 5, 2) := by decide +kernel
theorem d_Planner_endWith_66 : decode prog_6_method_8_code 66 = .ok (.aload 7, 2) := by decide +kernel
theorem d_Planner_endWith_68 : decode prog_6_method_8_code 68 = .ok (.invokevirtual 113, 3) := by decide +kernel
theorem d_Planner_endWith_71 : decode prog_6_method_8_code 71 = .ok (.if_icmp .le 5, 3) := by decide +kernel
theorem d_Planner_endWith_74 : decode prog_6_method_8_code 74 = .ok (.iconst (-1), 1) := by decide +kernel
theorem d_Planner_endWith_75 : decode prog_6_method_8_code 75 = .ok (.ireturn, 1) := by decide +kernel
theorem d_Planner_endWith_76 : decode prog_6_method_8_code 76 = .ok (.iload 5, 2) := by decide +kernel
theorem d_Planner_endWith_78 : decode prog_6_method_8_code 78 = .ok (.aload 7, 2) := by decide +kernel
theorem d_Planner_endWith_80 : decode prog_6_method_8_code 80 = .ok (.invokevirtual 116, 3) := by decide +kernel
theorem d_Planner_endWith_83 : decode prog_6_method_8_code 83 = .ok (.iadd, 1) := by decide +kernel
theorem d_Planner_endWith_84 : decode prog_6_method_8_code 84 = .ok (.istore 5, 2) := by decide +kernel
theorem d_Planner_endWith_86 : decode prog_6_method_8_code 86 = .ok (.iinc 6 1, 3) := by decide +kernel
theorem d_Planner_endWith_89 : decode prog_6_method_8_code 89 = .ok (.goto (-78), 3) := by decide +kernel
theorem d_Planner_endWith_92 : decode prog_6_method_8_code 92 = .ok (.iload 5, 2) := by decide +kernel
theorem d_Planner_endWith_94 : decode prog_6_method_8_code 94 = .ok (.ireturn, 1) := by decide +kernel
theorem d_Planner_makeByBest_0 : decode prog_6_method_9_code 0 = .ok (.aload_n 0, 1) := by decide +kernel
theorem d_Planner_makeByBest_1 : decode prog_6_method_9_code 1 = .ok (.iload_n 2, 1) := by decide +kernel
theorem d_Planner_makeByBest_2 : decode prog_6_method_9_code 2 = .ok (.invokevirtual 82, 3) := by decide +kernel
theorem d_Planner_makeByBest_5 : decode prog_6_method_9_code 5 = .ok (.aload_n 0, 1) := by decide +kernel
theorem d_Planner_makeByBest_6 : decode prog_6_method_9_code 6 = .ok (.getfield 25, 3) := by decide +kernel
theorem d_Planner_makeByBest_9 : decode prog_6_method_9_code 9 = .ok (.invokevirtual 45, 3) := by decide +kernel
theorem d_Planner_makeByBest_12 : decode prog_6_method_9_code 12 = .ok (.bipush 8, 2) := by decide +kernel
theorem d_Planner_makeByBest_14 : decode prog_6_method_9_code 14 = .ok (.invokestatic 119, 3) := by decide +kernel
theorem d_Planner_makeByBest_17 : decode prog_6_method_9_code 17 = .ok (.istore_n 3, 1) := by decide +kernel
theorem d_Planner_makeByBest_18 : decode prog_6_method_9_code 18 = .ok (.aload_n 0, 1) := by decide +kernel
theorem d_Planner_makeByBest_19 : decode prog_6_method_9_code 19 = .ok (.iload_n 3, 1) := by decide +kernel
theorem d_Planner_makeByBest_20 : decode prog_6_method_9_code 20 = .ok (.invokevirtual 125, 3) := by decide +kernel
theorem d_Planner_makeByBest_23 : decode prog_6_method_9_code 23 = .ok (.aload_n 0, 1) := by decide +kernel
theorem d_Planner_makeByBest_24 : decode prog_6_method_9_code 24 = .ok (.getfield 31, 3) := by decide +kernel
theorem d_Planner_makeByBest_27 : decode prog_6_method_9_code 27 = .ok (.invokestatic 128, 3) := by decide +kernel
theorem d_Planner_makeByBest_30 : decode prog_6_method_9_code 30 = .ok (.iconst 0, 1) := by decide +kernel
theorem d_Planner_makeByBest_31 : decode prog_6_method_9_code 31 = .ok (.istore 4, 2) := by decide +kernel
theorem d_Planner_makeByBest_33 : decode prog_6_method_9_code 33 = .ok (.iload 4, 2) := by decide +kernel
theorem d_Planner_makeByBest_35 : decode prog_6_method_9_code 35 = .ok (.aload_n 0, 1) := by decide +kernel
theorem d_Planner_makeByBest_36 : decode prog_6_method_9_code 36 = .ok (.getfield 15, 3) := by decide +kernel
theorem d_Planner_makeByBest_39 : decode prog_6_method_9_code 39 = .ok (.invokevirtual 45, 3) := by decide +kernel
theorem d_Planner_makeByBest_42 : decode prog_6_method_9_code 42 = .ok (.if_icmp .ge 43, 3) := by decide +kernel
theorem d_Planner_makeByBest_45 : decode prog_6_method_9_code 45 = .ok (.aload_n 0, 1) := by decide +kernel
theorem d_Planner_makeByBest_46 : decode prog_6_method_9_code 46 = .ok (.iload 4, 2) := by decide +kernel
theorem d_Planner_makeByBest_48 : decode prog_6_method_9_code 48 = .ok (.aload_n 0, 1) := by decide +kernel
theorem d_Planner_makeByBest_49 : decode prog_6_method_9_code 49 = .ok (.getfield 15, 3) := by decide +kernel
theorem d_Planner_makeByBest_52 : decode prog_6_method_9_code 52 = .ok (.iload 4, 2) := by decide +kernel
theorem d_Planner_makeByBest_54 : decode prog_6_method_9_code 54 = .ok (.invokevirtual 49, 3) := by decide +kernel
theorem d_Planner_makeByBest_57 : decode prog_6_method_9_code 57 = .ok (.checkcast 96, 3) := by decide +kernel
theorem d_Planner_makeByBest_60 : decode prog_6_method_9_code 60 = .ok (.iload_n 1, 1) := by decide +kernel
theorem d_Planner_makeByBest_61 : decode prog_6_method_9_code 61 = .ok (.iload_n 3, 1) := by decide +kernel
theorem d_Planner_makeByBest_62 : decode prog_6_method_9_code 62 = .ok (.invokevirtual 133, 3) := by decide +kernel
theorem d_Planner_makeByBest_65 : decode prog_6_method_9_code 65 = .ok (.aload_n 0, 1) := by decide +kernel
theorem d_Planner_makeByBest_66 : decode prog_6_method_9_code 66 = .ok (.getfield 31, 3) := by decide +kernel
theorem d_Planner_makeByBest_69 : decode prog_6_method_9_code 69 = .ok (.aload_n 0, 1) := by decide +kernel
theorem d_Planner_makeByBest_70 : decode prog_6_method_9_code 70 = .ok (.getfield 35, 3) := by decide +kernel
theorem d_Planner_makeByBest_73 : decode prog_6_method_9_code 73 = .ok (.iconst 1, 1) := by decide +kernel
theorem d_Planner_makeByBest_74 : decode prog_6_method_9_code 74 = .ok (.iload_n 3, 1) := by decide +kernel
theorem d_Planner_makeByBest_75 : decode prog_6_method_9_code 75 = .ok (.ishl, 1) := by decide +kernel
theorem d_Planner_makeByBest_76 : decode prog_6_method_9_code 76 = .ok (.invokestatic 137, 3) := by decide +kernel
theorem d_Planner_makeByBest_79 : decode prog_6_method_9_code 79 = .ok (.iinc 4 1, 3) := by decide +kernel
theorem d_Planner_makeByBest_82 : decode prog_6_method_9_code 82 = .ok (.goto (-49), 3) := by decide +kernel
theorem d_Planner_makeByBest_85 : decode prog_6_method_9_code 85 = .ok (.lconst 0, 1) := by decide +kernel
theorem d_Planner_makeByBest_86 : decode prog_6_method_9_code 86 = .ok (.lstore 4, 2) := by decide +kernel
theorem d_Planner_makeByBest_88 : decode prog_6_method_9_code 88 = .ok (.iconst 0, 1) := by decide +kernel
theorem d_Planner_makeByBest_89 : decode prog_6_method_9_code 89 = .ok (.istore 6, 2) := by decide +kernel
theorem d_Planner_makeByBest_91 : decode prog_6_method_9_code 91 = .ok (.iload 6, 2) := by decide +kernel
theorem d_Planner_makeByBest_93 : decode prog_6_method_9_code 93 = .ok (.sipush 256, 3) := by decide +kernel
theorem d_Planner_makeByBest_96 : decode prog_6_method_9_code 96 = .ok (.if_icmp .ge 31, 3) := by decide +kernel
theorem d_Planner_makeByBest_99 : decode prog_6_method_9_code 99 = .ok (.iload 6, 2) := by decide +kernel
theorem d_Planner_makeByBest_101 : decode prog_6_method_9_code 101 = .ok (.iconst 1, 1) := by decide +kernel
theorem d_Planner_makeByBest_102 : decode prog_6_method_9_code 102 = .ok (.iload_n 3, 1) := by decide +kernel
theorem d_Planner_makeByBest_103 : decode prog_6_method_9_code 103 = .ok (.ishl, 1) := by decide +kernel
theorem d_Planner_makeByBest_104 : decode prog_6_method_9_code 104 = .ok (.if_icmp .ge 23, 3) := by decide +kernel
theorem d_Planner_makeByBest_107 : decode prog_6_method_9_code 107 = .ok (.lload 4, 2) := by decide +kernel
theorem d_Planner_makeByBest_109 : decode prog_6_method_9_code 109 = .ok (.aload_n 0, 1) := by decide +kernel
theorem d_Planner_makeByBest_110 : decode prog_6_method_9_code 110 = .ok (.getfield 31, 3) := by decide +kernel
theorem d_Planner_makeByBest_113 : decode prog_6_method_9_code 113 = .ok (.iload 6, 2) := by decide +kernel
theorem d_Planner_makeByBest_115 : decode prog_6_method_9_code 115 = .ok (.laload, 1) := by decide +kernel
theorem d_Planner_makeByBest_116 : decode prog_6_method_9_code 116 = .ok (.invokestatic 141, 3) := by decide +kernel
theorem d_Planner_makeByBest_119 : decode prog_6_method_9_code 119 = .ok (.lstore 4, 2) := by decide +kernel
theorem d_Planner_makeByBest_121 : decode prog_6_method_9_code 121 = .ok (.iinc 6 1, 3) := by decide +kernel
theorem d_Planner_makeByBest_124 : decode prog_6_method_9_code 124 = .ok (.goto (-33), 3) := by decide +kernel
theorem d_Planner_makeByBest_127 : decode prog_6_method_9_code 127 = .ok (.aload_n 0, 1) := by decide +kernel
theorem d_Planner_makeByBest_128 : decode prog_6_method_9_code 128 = .ok (.lload 4, 2) := by decide +kernel
theorem d_Planner_makeByBest_130 : decode prog_6_method_9_code 130 = .ok (.invokevirtual 145, 3) := by decide +kernel
theorem d_Planner_makeByBest_133 : decode prog_6_method_9_code 133 = .ok (.lload 4, 2) := by decide +kernel
theorem d_Planner_makeByBest_135 : decode prog_6_method_9_code 135 = .ok (.bipush 32, 2) := by decide +kernel
theorem d_Planner_makeByBest_137 : decode prog_6_method_9_code 137 = .ok (.lshr, 1) := by decide +kernel
theorem d_Planner_makeByBest_138 : decode prog_6_method_9_code 138 = .ok (.l2i, 1) := by decide +kernel
theorem d_Planner_makeByBest_139 : decode prog_6_method_9_code 139 = .ok (.ireturn, 1) := by decide +kernel
theorem d_Planner_addLengths_0 : decode prog_6_method_10_code 0 = .ok (.aload_n 0, 1) := by decide +kernel
theorem d_Planner_addLengths_1 : decode prog_6_method_10_code 1 = .ok (.getfield 38, 3) := by decide +kernel
theorem d_Planner_addLengths_4 : decode prog_6_method_10_code 4 = .ok (.iconst 0, 1) := by decide +kernel
theorem d_Planner_addLengths_5 : decode prog_6_method_10_code 5 = .ok (.iconst 0, 1) := by decide +kernel
theorem d_Planner_addLengths_6 : decode prog_6_method_10_code 6 = .ok (.iastore, 1) := by decide +kernel
theorem d_Planner_addLengths_7 : decode prog_6_method_10_code 7 = .ok (.iconst 0, 1) := by decide +kernel
theorem d_Planner_addLengths_8 : decode prog_6_method_10_code 8 = .ok (.istore_n 2, 1) := by decide +kernel
theorem d_Planner_addLengths_9 : decode prog_6_method_10_code 9 = .ok (.iload_n 2, 1) := by decide +kernel
theorem d_Planner_addLengths_10 : decode prog_6_method_10_code 10 = .ok (.iload_n 1, 1) := by decide +kernel
theorem d_Planner_addLengths_11 : decode prog_6_method_10_code 11 = .ok (.if_icmp .ge 80, 3) := by decide +kernel
theorem d_Planner_addLengths_14 : decode prog_6_method_10_code 14 = .ok (.iload_n 2, 1) := by decide +kernel
theorem d_Planner_addLengths_15 : decode prog_6_method_10_code 15 = .ok (.aload_n 0, 1) := by decide +kernel
theorem d_Planner_addLengths_16 : decode prog_6_method_10_code 16 = .ok (.getfield 25, 3) := by decide +kernel
theorem d_Planner_addLengths_19 : decode prog_6_method_10_code 19 = .ok (.invokevirtual 45, 3) := by decide +kernel
theorem d_Planner_addLengths_22 : decode prog_6_method_10_code 22 = .ok (.if_icmp .ge 69, 3) := by decide +kernel
theorem d_Planner_addLengths_25 : decode prog_6_method_10_code 25 = .ok (.iconst 1, 1) := by decide +kernel
theorem d_Planner_addLengths_26 : decode prog_6_method_10_code 26 = .ok (.iload_n 2, 1) := by decide +kernel
theorem d_Planner_addLengths_27 : decode prog_6_method_10_code 27 = .ok (.ishl, 1) := by decide +kernel
theorem d_Planner_addLengths_28 : decode prog_6_method_10_code 28 = .ok (.istore_n 3, 1) := by decide +kernel
theorem d_Planner_addLengths_29 : decode prog_6_method_10_code 29 = .ok (.iconst 0, 1) := by decide +kernel
theorem d_Planner_addLengths_30 : decode prog_6_method_10_code 30 = .ok (.istore 4, 2) := by decide +kernel
theorem d_Planner_addLengths_32 : decode prog_6_method_10_code 32 = .ok (.iload 4, 2) := by decide +kernel
theorem d_Planner_addLengths_34 : decode prog_6_method_10_code 34 = .ok (.iload_n 3, 1) := by decide +kernel
theorem d_Planner_addLengths_35 : decode prog_6_method_10_code 35 = .ok (.if_icmp .ge 50, 3) := by decide +kernel
theorem d_Planner_addLengths_38 : decode prog_6_method_10_code 38 = .ok (.iload 4, 2) := by decide +kernel
theorem d_Planner_addLengths_40 : decode prog_6_method_10_code 40 = .ok (.iload_n 3, 1) := by decide +kernel
theorem d_Planner_addLengths_41 : decode prog_6_method_10_code 41 = .ok (.iadd, 1) := by decide +kernel
theorem d_Planner_addLengths_42 : decode prog_6_method_10_code 42 = .ok (.sipush 256, 3) := by decide +kernel
theorem d_Planner_addLengths_45 : decode prog_6_method_10_code 45 = .ok (.if_icmp .ge 40, 3) := by decide +kernel
theorem d_Planner_addLengths_48 : decode prog_6_method_10_code 48 = .ok (.aload_n 0, 1) := by decide +kernel
theorem d_Planner_addLengths_49 : decode prog_6_method_10_code 49 = .ok (.getfield 38, 3) := by decide +kernel
theorem d_Planner_addLengths_52 : decode prog_6_method_10_code 52 = .ok (.iload 4, 2) := by decide +kernel
theorem d_Planner_addLengths_54 : decode prog_6_method_10_code 54 = .ok (.iload_n 3, 1) := by decide +kernel
theorem d_Planner_addLengths_55 : decode prog_6_method_10_code 55 = .ok (.iadd, 1) := by decide +kernel
theorem d_Planner_addLengths_56 : decode prog_6_method_10_code 56 = .ok (.aload_n 0, 1) := by decide +kernel
theorem d_Planner_addLengths_57 : decode prog_6_method_10_code 57 = .ok (.getfield 38, 3) := by decide +kernel
theorem d_Planner_addLengths_60 : decode prog_6_method_10_code 60 = .ok (.iload 4, 2) := by decide +kernel
theorem d_Planner_addLengths_62 : decode prog_6_method_10_code 62 = .ok (.iaload, 1) := by decide +kernel
theorem d_Planner_addLengths_63 : decode prog_6_method_10_code 63 = .ok (.aload_n 0, 1) := by decide +kernel
theorem d_Planner_addLengths_64 : decode prog_6_method_10_code 64 = .ok (.getfield 25, 3) := by decide +kernel
theorem d_Planner_addLengths_67 : decode prog_6_method_10_code 67 = .ok (.iload_n 2, 1) := by decide +kernel
theorem d_Planner_addLengths_68 : decode prog_6_method_10_code 68 = .ok (.invokevirtual 49, 3) := by decide +kernel
theorem d_Planner_addLengths_71 : decode prog_6_method_10_code 71 = .ok (.checkcast 53, 3) := by decide +kernel
theorem d_Planner_addLengths_74 : decode prog_6_method_10_code 74 = .ok (.invokevirtual 116, 3) := by decide +kernel
theorem d_Planner_addLengths_77 : decode prog_6_method_10_code 77 = .ok (.iadd, 1) := by decide +kernel
theorem d_Planner_addLengths_78 : decode prog_6_method_10_code 78 = .ok (.iastore, 1) := by decide +kernel
theorem d_Planner_addLengths_79 : decode prog_6_method_10_code 79 = .ok (.iinc 4 1, 3) := by decide +kernel
theorem d_Planner_addLengths_82 : decode prog_6_method_10_code 82 = .ok (.goto (-50), 3) := by decide +kernel
theorem d_Planner_addLengths_85 : decode prog_6_method_10_code 85 = .ok (.iinc 2 1, 3) := by decide +kernel
theorem d_Planner_addLengths_88 : decode prog_6_method_10_code 88 = .ok (.goto (-79), 3) := by decide +kernel
theorem d_Planner_addLengths_91 : decode prog_6_method_10_code 91 = .ok (.return_, 1) := by decide +kernel
theorem d_Planner_scoreTeam_0 : decode prog_6_method_11_code 0 = .ok (.aload_n 2, 1) := by decide +kernel
theorem d_Planner_scoreTeam_1 : decode prog_6_method_11_code 1 = .ok (.iload_n 3, 1) := by decide +kernel
theorem d_Planner_scoreTeam_2 : decode prog_6_method_11_code 2 = .ok (.invokevirtual 102, 3) := by decide +kernel
theorem d_Planner_scoreTeam_5 : decode prog_6_method_11_code 5 = .ok (.istore 5, 2) := by decide +kernel
theorem d_Planner_scoreTeam_7 : decode prog_6_method_11_code 7 = .ok (.aload_n 0, 1) := by decide +kernel
theorem d_Planner_scoreTeam_8 : decode prog_6_method_11_code 8 = .ok (.getfield 35, 3) := by decide +kernel
theorem d_Planner_scoreTeam_11 : decode prog_6_method_11_code 11 = .ok (.invokestatic 128, 3) := by decide +kernel
theorem d_Planner_scoreTeam_14 : decode prog_6_method_11_code 14 = .ok (.iconst 0, 1) := by decide +kernel
theorem d_Planner_scoreTeam_15 : decode prog_6_method_11_code 15 = .ok (.istore 6, 2) := by decide +kernel
theorem d_Planner_scoreTeam_17 : decode prog_6_method_11_code 17 = .ok (.iload 6, 2) := by decide +kernel
theorem d_Planner_scoreTeam_19 : decode prog_6_method_11_code 19 = .ok (.iload 4, 2) := by decide +kernel
theorem d_Planner_scoreTeam_21 : decode prog_6_method_11_code 21 = .ok (.if_icmp .ge 152, 3) := by decide +kernel
theorem d_Planner_scoreTeam_24 : decode prog_6_method_11_code 24 = .ok (.iload 6, 2) := by decide +kernel
theorem d_Planner_scoreTeam_26 : decode prog_6_method_11_code 26 = .ok (.aload_n 0, 1) := by decide +kernel
theorem d_Planner_scoreTeam_27 : decode prog_6_method_11_code 27 = .ok (.getfield 25, 3) := by decide +kernel
theorem d_Planner_scoreTeam_30 : decode prog_6_method_11_code 30 = .ok (.invokevirtual 45, 3) := by decide +kernel
theorem d_Planner_scoreTeam_33 : decode prog_6_method_11_code 33 = .ok (.if_icmp .ge 140, 3) := by decide +kernel
theorem d_Planner_scoreTeam_36 : decode prog_6_method_11_code 36 = .ok (.aload_n 0, 1) := by decide +kernel
theorem d_Planner_scoreTeam_37 : decode prog_6_method_11_code 37 = .ok (.getfield 25, 3) := by decide +kernel
theorem d_Planner_scoreTeam_40 : decode prog_6_method_11_code 40 = .ok (.iload 6, 2) := by decide +kernel
theorem d_Planner_scoreTeam_42 : decode prog_6_method_11_code 42 = .ok (.invokevirtual 49, 3) := by decide +kernel
theorem d_Planner_scoreTeam_45 : decode prog_6_method_11_code 45 = .ok (.checkcast 53, 3) := by decide +kernel
theorem d_Planner_scoreTeam_48 : decode prog_6_method_11_code 48 = .ok (.astore 7, 2) := by decide +kernel
theorem d_Planner_scoreTeam_50 : decode prog_6_method_11_code 50 = .ok (.aload 7, 2) := by decide +kernel
theorem d_Planner_scoreTeam_52 : decode prog_6_method_11_code 52 = .ok (.invokevirtual 109, 3) := by decide +kernel
theorem d_Planner_scoreTeam_55 : decode prog_6_method_11_code 55 = .ok (.aload_n 2, 1) := by decide +kernel
theorem d_Planner_scoreTeam_56 : decode prog_6_method_11_code 56 = .ok (.invokevirtual 112, 3) := by decide +kernel
theorem d_Planner_scoreTeam_59 : decode prog_6_method_11_code 59 = .ok (.if_icmp .le 9, 3) := by decide +kernel
theorem d_Planner_scoreTeam_62 : decode prog_6_method_11_code 62 = .ok (.ldc2_w 149, 3) := by decide +kernel
theorem d_Planner_scoreTeam_65 : decode prog_6_method_11_code 65 = .ok (.goto 9, 3) := by decide +kernel
theorem d_Planner_scoreTeam_68 : decode prog_6_method_11_code 68 = .ok (.aload 7, 2) := by decide +kernel
theorem d_Planner_scoreTeam_70 : decode prog_6_method_11_code 70 = .ok (.iload_n 1, 1) := by decide +kernel
theorem d_Planner_scoreTeam_71 : decode prog_6_method_11_code 71 = .ok (.invokestatic 151, 3) := by decide +kernel
theorem d_Planner_scoreTeam_74 : decode prog_6_method_11_code 74 = .ok (.lstore 8, 2) := by decide +kernel
theorem d_Planner_scoreTeam_76 : decode prog_6_method_11_code 76 = .ok (.iconst 1, 1) := by decide +kernel
theorem d_Planner_scoreTeam_77 : decode prog_6_method_11_code 77 = .ok (.iload 6, 2) := by decide +kernel
theorem d_Planner_scoreTeam_79 : decode prog_6_method_11_code 79 = .ok (.ishl, 1) := by decide +kernel
theorem d_Planner_scoreTeam_80 : decode prog_6_method_11_code 80 = .ok (.istore 10, 2) := by decide +kernel
theorem d_Planner_scoreTeam_82 : decode prog_6_method_11_code 82 = .ok (.iconst 0, 1) := by decide +kernel
theorem d_Planner_scoreTeam_83 : decode prog_6_method_11_code 83 = .ok (.istore 11, 2) := by decide +kernel
theorem d_Planner_scoreTeam_85 : decode prog_6_method_11_code 85 = .ok (.iload 11, 2) := by decide +kernel
theorem d_Planner_scoreTeam_87 : decode prog_6_method_11_code 87 = .ok (.iload 10, 2) := by decide +kernel
theorem d_Planner_scoreTeam_89 : decode prog_6_method_11_code 89 = .ok (.if_icmp .ge 78, 3) := by decide +kernel
theorem d_Planner_scoreTeam_92 : decode prog_6_method_11_code 92 = .ok (.iload 11, 2) := by decide +kernel
theorem d_Planner_scoreTeam_94 : decode prog_6_method_11_code 94 = .ok (.iload 10, 2) := by decide +kernel
theorem d_Planner_scoreTeam_96 : decode prog_6_method_11_code 96 = .ok (.iadd, 1) := by decide +kernel
theorem d_Planner_scoreTeam_97 : decode prog_6_method_11_code 97 = .ok (.sipush 256, 3) := by decide +kernel
theorem d_Planner_scoreTeam_100 : decode prog_6_method_11_code 100 = .ok (.if_icmp .ge 67, 3) := by decide +kernel
theorem d_Planner_scoreTeam_103 : decode prog_6_method_11_code 103 = .ok (.iload 5, 2) := by decide +kernel
theorem d_Planner_scoreTeam_105 : decode prog_6_method_11_code 105 = .ok (.aload_n 0, 1) := by decide +kernel
theorem d_Planner_scoreTeam_106 : decode prog_6_method_11_code 106 = .ok (.getfield 38, 3) := by decide +kernel
theorem d_Planner_scoreTeam_109 : decode prog_6_method_11_code 109 = .ok (.iload 11, 2) := by decide +kernel
theorem d_Planner_scoreTeam_111 : decode prog_6_method_11_code 111 = .ok (.iaload, 1) := by decide +kernel
theorem d_Planner_scoreTeam_112 : decode prog_6_method_11_code 112 = .ok (.iadd, 1) := by decide +kernel
theorem d_Planner_scoreTeam_113 : decode prog_6_method_11_code 113 = .ok (.aload 7, 2) := by decide +kernel
theorem d_Planner_scoreTeam_115 : decode prog_6_method_11_code 115 = .ok (.invokevirtual 113, 3) := by decide +kernel
theorem d_Planner_scoreTeam_118 : decode prog_6_method_11_code 118 = .ok (.if_icmp .gt 7, 3) := by decide +kernel
theorem d_Planner_scoreTeam_121 : decode prog_6_method_11_code 121 = .ok (.iconst 1, 1) := by decide +kernel
theorem d_Planner_scoreTeam_122 : decode prog_6_method_11_code 122 = .ok (.goto 4, 3) := by decide +kernel
theorem d_Planner_scoreTeam_125 : decode prog_6_method_11_code 125 = .ok (.iconst 0, 1) := by decide +kernel
theorem d_Planner_scoreTeam_126 : decode prog_6_method_11_code 126 = .ok (.istore 12, 2) := by decide +kernel
theorem d_Planner_scoreTeam_128 : decode prog_6_method_11_code 128 = .ok (.aload_n 0, 1) := by decide +kernel
theorem d_Planner_scoreTeam_129 : decode prog_6_method_11_code 129 = .ok (.getfield 35, 3) := by decide +kernel
theorem d_Planner_scoreTeam_132 : decode prog_6_method_11_code 132 = .ok (.iload 11, 2) := by decide +kernel
theorem d_Planner_scoreTeam_134 : decode prog_6_method_11_code 134 = .ok (.iload 10, 2) := by decide +kernel
theorem d_Planner_scoreTeam_136 : decode prog_6_method_11_code 136 = .ok (.iadd, 1) := by decide +kernel
theorem d_Planner_scoreTeam_137 : decode prog_6_method_11_code 137 = .ok (.iload 12, 2) := by decide +kernel
theorem d_Planner_scoreTeam_139 : decode prog_6_method_11_code 139 = .ok (.ifCond .eq 18, 3) := by decide +kernel
theorem d_Planner_scoreTeam_142 : decode prog_6_method_11_code 142 = .ok (.aload_n 0, 1) := by decide +kernel
theorem d_Planner_scoreTeam_143 : decode prog_6_method_11_code 143 = .ok (.getfield 35, 3) := by decide +kernel
theorem d_Planner_scoreTeam_146 : decode prog_6_method_11_code 146 = .ok (.iload 11, 2) := by decide +kernel
theorem d_Planner_scoreTeam_148 : decode prog_6_method_11_code 148 = .ok (.laload, 1) := by decide +kernel
theorem d_Planner_scoreTeam_149 : decode prog_6_method_11_code 149 = .ok (.lload 8, 2) := by decide +kernel
theorem d_Planner_scoreTeam_151 : decode prog_6_method_11_code 151 = .ok (.invokestatic 155, 3) := by decide +kernel
theorem d_Planner_scoreTeam_154 : decode prog_6_method_11_code 154 = .ok (.goto 6, 3) := by decide +kernel
theorem d_Planner_scoreTeam_157 : decode prog_6_method_11_code 157 = .ok (.ldc2_w 149, 3) := by decide +kernel
theorem d_Planner_scoreTeam_160 : decode prog_6_method_11_code 160 = .ok (.lastore, 1) := by decide +kernel
theorem d_Planner_scoreTeam_161 : decode prog_6_method_11_code 161 = .ok (.iinc 11 1, 3) := by decide +kernel
theorem d_Planner_scoreTeam_164 : decode prog_6_method_11_code 164 = .ok (.goto (-79), 3) := by decide +kernel
theorem d_Planner_scoreTeam_167 : decode prog_6_method_11_code 167 = .ok (.iinc 6 1, 3) := by decide +kernel
theorem d_Planner_scoreTeam_170 : decode prog_6_method_11_code 170 = .ok (.goto (-153), 3) := by decide +kernel
theorem d_Planner_scoreTeam_173 : decode prog_6_method_11_code 173 = .ok (.return_, 1) := by decide +kernel
theorem d_Planner_shiftOf_0 : decode prog_6_method_12_code 0 = .ok (.iconst 2, 1) := by decide +kernel
theorem d_Planner_shiftOf_1 : decode prog_6_method_12_code 1 = .ok (.bipush 15, 2) := by decide +kernel
theorem d_Planner_shiftOf_3 : decode prog_6_method_12_code 3 = .ok (.aload_n 0, 1) := by decide +kernel
theorem d_Planner_shiftOf_4 : decode prog_6_method_12_code 4 = .ok (.invokevirtual 158, 3) := by decide +kernel
theorem d_Planner_shiftOf_7 : decode prog_6_method_12_code 7 = .ok (.isub, 1) := by decide +kernel
theorem d_Planner_shiftOf_8 : decode prog_6_method_12_code 8 = .ok (.imul, 1) := by decide +kernel
theorem d_Planner_shiftOf_9 : decode prog_6_method_12_code 9 = .ok (.ireturn, 1) := by decide +kernel
theorem d_Planner_scoreOf_0 : decode prog_6_method_13_code 0 = .ok (.aload_n 0, 1) := by decide +kernel
theorem d_Planner_scoreOf_1 : decode prog_6_method_13_code 1 = .ok (.invokevirtual 93, 3) := by decide +kernel
theorem d_Planner_scoreOf_4 : decode prog_6_method_13_code 4 = .ok (.i2l, 1) := by decide +kernel
theorem d_Planner_scoreOf_5 : decode prog_6_method_13_code 5 = .ok (.bipush 32, 2) := by decide +kernel
theorem d_Planner_scoreOf_7 : decode prog_6_method_13_code 7 = .ok (.lshl, 1) := by decide +kernel
theorem d_Planner_scoreOf_8 : decode prog_6_method_13_code 8 = .ok (.iconst 3, 1) := by decide +kernel
theorem d_Planner_scoreOf_9 : decode prog_6_method_13_code 9 = .ok (.iload_n 1, 1) := by decide +kernel
theorem d_Planner_scoreOf_10 : decode prog_6_method_13_code 10 = .ok (.isub, 1) := by decide +kernel
theorem d_Planner_scoreOf_11 : decode prog_6_method_13_code 11 = .ok (.i2l, 1) := by decide +kernel
theorem d_Planner_scoreOf_12 : decode prog_6_method_13_code 12 = .ok (.aload_n 0, 1) := by decide +kernel
theorem d_Planner_scoreOf_13 : decode prog_6_method_13_code 13 = .ok (.invokestatic 161, 3) := by decide +kernel
theorem d_Planner_scoreOf_16 : decode prog_6_method_13_code 16 = .ok (.lshl, 1) := by decide +kernel
theorem d_Planner_scoreOf_17 : decode prog_6_method_13_code 17 = .ok (.ladd, 1) := by decide +kernel
theorem d_Planner_scoreOf_18 : decode prog_6_method_13_code 18 = .ok (.lreturn, 1) := by decide +kernel
theorem d_Planner_chooseBy_0 : decode prog_6_method_14_code 0 = .ok (.iconst 0, 1) := by decide +kernel
theorem d_Planner_chooseBy_1 : decode prog_6_method_14_code 1 = .ok (.istore_n 3, 1) := by decide +kernel
theorem d_Planner_chooseBy_2 : decode prog_6_method_14_code 2 = .ok (.iload_n 3, 1) := by decide +kernel
theorem d_Planner_chooseBy_3 : decode prog_6_method_14_code 3 = .ok (.aload_n 0, 1) := by decide +kernel
theorem d_Planner_chooseBy_4 : decode prog_6_method_14_code 4 = .ok (.getfield 25, 3) := by decide +kernel
theorem d_Planner_chooseBy_7 : decode prog_6_method_14_code 7 = .ok (.invokevirtual 45, 3) := by decide +kernel
theorem d_Planner_chooseBy_10 : decode prog_6_method_14_code 10 = .ok (.if_icmp .ge 52, 3) := by decide +kernel
theorem d_Planner_chooseBy_13 : decode prog_6_method_14_code 13 = .ok (.aload_n 0, 1) := by decide +kernel
theorem d_Planner_chooseBy_14 : decode prog_6_method_14_code 14 = .ok (.getfield 25, 3) := by decide +kernel
theorem d_Planner_chooseBy_17 : decode prog_6_method_14_code 17 = .ok (.iload_n 3, 1) := by decide +kernel
theorem d_Planner_chooseBy_18 : decode prog_6_method_14_code 18 = .ok (.invokevirtual 49, 3) := by decide +kernel
theorem d_Planner_chooseBy_21 : decode prog_6_method_14_code 21 = .ok (.checkcast 53, 3) := by decide +kernel
theorem d_Planner_chooseBy_24 : decode prog_6_method_14_code 24 = .ok (.astore 4, 2) := by decide +kernel
theorem d_Planner_chooseBy_26 : decode prog_6_method_14_code 26 = .ok (.lload_n 1, 1) := by decide +kernel
theorem d_Planner_chooseBy_27 : decode prog_6_method_14_code 27 = .ok (.aload 4, 2) := by decide +kernel
theorem d_Planner_chooseBy_29 : decode prog_6_method_14_code 29 = .ok (.invokestatic 161, 3) := by decide +kernel
theorem d_Planner_chooseBy_32 : decode prog_6_method_14_code 32 = .ok (.lshr, 1) := by decide +kernel
theorem d_Planner_chooseBy_33 : decode prog_6_method_14_code 33 = .ok (.l2i, 1) := by decide +kernel
theorem d_Planner_chooseBy_34 : decode prog_6_method_14_code 34 = .ok (.iconst 3, 1) := by decide +kernel
theorem d_Planner_chooseBy_35 : decode prog_6_method_14_code 35 = .ok (.iand, 1) := by decide +kernel
theorem d_Planner_chooseBy_36 : decode prog_6_method_14_code 36 = .ok (.istore 5, 2) := by decide +kernel
theorem d_Planner_chooseBy_38 : decode prog_6_method_14_code 38 = .ok (.aload 4, 2) := by decide +kernel
theorem d_Planner_chooseBy_40 : decode prog_6_method_14_code 40 = .ok (.iload 5, 2) := by decide +kernel
theorem d_Planner_chooseBy_42 : decode prog_6_method_14_code 42 = .ok (.ifCond .ne 7, 3) := by decide +kernel
theorem d_Planner_chooseBy_45 : decode prog_6_method_14_code 45 = .ok (.iconst (-1), 1) := by decide +kernel
theorem d_Planner_chooseBy_46 : decode prog_6_method_14_code 46 = .ok (.goto 7, 3) := by decide +kernel
theorem d_Planner_chooseBy_49 : decode prog_6_method_14_code 49 = .ok (.iconst 3, 1) := by decide +kernel
theorem d_Planner_chooseBy_50 : decode prog_6_method_14_code 50 = .ok (.iload 5, 2) := by decide +kernel
theorem d_Planner_chooseBy_52 : decode prog_6_method_14_code 52 = .ok (.isub, 1) := by decide +kernel
theorem d_Planner_chooseBy_53 : decode prog_6_method_14_code 53 = .ok (.invokevirtual 90, 3) := by decide +kernel
theorem d_Planner_chooseBy_56 : decode prog_6_method_14_code 56 = .ok (.iinc 3 1, 3) := by decide +kernel
theorem d_Planner_chooseBy_59 : decode prog_6_method_14_code 59 = .ok (.goto (-57), 3) := by decide +kernel
theorem d_Planner_chooseBy_62 : decode prog_6_method_14_code 62 = .ok (.return_, 1) := by decide +kernel
theorem d_Planner_takeAsThePlan_0 : decode prog_6_method_15_code 0 = .ok (.iconst 0, 1) := by decide +kernel
theorem d_Planner_takeAsThePlan_1 : decode prog_6_method_15_code 1 = .ok (.istore_n 1, 1) := by decide +kernel
theorem d_Planner_takeAsThePlan_2 : decode prog_6_method_15_code 2 = .ok (.iload_n 1, 1) := by decide +kernel
theorem d_Planner_takeAsThePlan_3 : decode prog_6_method_15_code 3 = .ok (.aload_n 0, 1) := by decide +kernel
theorem d_Planner_takeAsThePlan_4 : decode prog_6_method_15_code 4 = .ok (.getfield 9, 3) := by decide +kernel
theorem d_Planner_takeAsThePlan_7 : decode prog_6_method_15_code 7 = .ok (.invokevirtual 45, 3) := by decide +kernel
theorem d_Planner_takeAsThePlan_10 : decode prog_6_method_15_code 10 = .ok (.if_icmp .ge 43, 3) := by decide +kernel
theorem d_Planner_takeAsThePlan_13 : decode prog_6_method_15_code 13 = .ok (.aload_n 0, 1) := by decide +kernel
theorem d_Planner_takeAsThePlan_14 : decode prog_6_method_15_code 14 = .ok (.getfield 9, 3) := by decide +kernel
theorem d_Planner_takeAsThePlan_17 : decode prog_6_method_15_code 17 = .ok (.iload_n 1, 1) := by decide +kernel
theorem d_Planner_takeAsThePlan_18 : decode prog_6_method_15_code 18 = .ok (.invokevirtual 49, 3) := by decide +kernel
theorem d_Planner_takeAsThePlan_21 : decode prog_6_method_15_code 21 = .ok (.checkcast 53, 3) := by decide +kernel
theorem d_Planner_takeAsThePlan_24 : decode prog_6_method_15_code 24 = .ok (.bipush 100, 2) := by decide +kernel
theorem d_Planner_takeAsThePlan_26 : decode prog_6_method_15_code 26 = .ok (.invokevirtual 55, 3) := by decide +kernel
theorem d_Planner_takeAsThePlan_29 : decode prog_6_method_15_code 29 = .ok (.ifCond .eq 18, 3) := by decide +kernel
theorem d_Planner_takeAsThePlan_32 : decode prog_6_method_15_code 32 = .ok (.aload_n 0, 1) := by decide +kernel
theorem d_Planner_takeAsThePlan_33 : decode prog_6_method_15_code 33 = .ok (.getfield 9, 3) := by decide +kernel
theorem d_Planner_takeAsThePlan_36 : decode prog_6_method_15_code 36 = .ok (.iload_n 1, 1) := by decide +kernel
theorem d_Planner_takeAsThePlan_37 : decode prog_6_method_15_code 37 = .ok (.invokevirtual 49, 3) := by decide +kernel
theorem d_Planner_takeAsThePlan_40 : decode prog_6_method_15_code 40 = .ok (.checkcast 53, 3) := by decide +kernel
theorem d_Planner_takeAsThePlan_43 : decode prog_6_method_15_code 43 = .ok (.iconst (-1), 1) := by decide +kernel
theorem d_Planner_takeAsThePlan_44 : decode prog_6_method_15_code 44 = .ok (.invokevirtual 164, 3) := by decide +kernel
theorem d_Planner_takeAsThePlan_47 : decode prog_6_method_15_code 47 = .ok (.iinc 1 1, 3) := by decide +kernel
theorem d_Planner_takeAsThePlan_50 : decode prog_6_method_15_code 50 = .ok (.goto (-48), 3) := by decide +kernel
theorem d_Planner_takeAsThePlan_53 : decode prog_6_method_15_code 53 = .ok (.iconst 0, 1) := by decide +kernel
theorem d_Planner_takeAsThePlan_54 : decode prog_6_method_15_code 54 = .ok (.istore_n 1, 1) := by decide +kernel
theorem d_Planner_takeAsThePlan_55 : decode prog_6_method_15_code 55 = .ok (.iload_n 1, 1) := by decide +kernel
theorem d_Planner_takeAsThePlan_56 : decode prog_6_method_15_code 56 = .ok (.aload_n 0, 1) := by decide +kernel
theorem d_Planner_takeAsThePlan_57 : decode prog_6_method_15_code 57 = .ok (.getfield 25, 3) := by decide +kernel
theorem d_Planner_takeAsThePlan_60 : decode prog_6_method_15_code 60 = .ok (.invokevirtual 45, 3) := by decide +kernel
theorem d_Planner_takeAsThePlan_63 : decode prog_6_method_15_code 63 = .ok (.if_icmp .ge 37, 3) := by decide +kernel
theorem d_Planner_takeAsThePlan_66 : decode prog_6_method_15_code 66 = .ok (.aload_n 0, 1) := by decide +kernel
theorem d_Planner_takeAsThePlan_67 : decode prog_6_method_15_code 67 = .ok (.getfield 25, 3) := by decide +kernel
theorem d_Planner_takeAsThePlan_70 : decode prog_6_method_15_code 70 = .ok (.iload_n 1, 1) := by decide +kernel
theorem d_Planner_takeAsThePlan_71 : decode prog_6_method_15_code 71 = .ok (.invokevirtual 49, 3) := by decide +kernel
theorem d_Planner_takeAsThePlan_74 : decode prog_6_method_15_code 74 = .ok (.checkcast 53, 3) := by decide +kernel
theorem d_Planner_takeAsThePlan_77 : decode prog_6_method_15_code 77 = .ok (.aload_n 0, 1) := by decide +kernel
theorem d_Planner_takeAsThePlan_78 : decode prog_6_method_15_code 78 = .ok (.getfield 25, 3) := by decide +kernel
theorem d_Planner_takeAsThePlan_81 : decode prog_6_method_15_code 81 = .ok (.iload_n 1, 1) := by decide +kernel
theorem d_Planner_takeAsThePlan_82 : decode prog_6_method_15_code 82 = .ok (.invokevirtual 49, 3) := by decide +kernel
theorem d_Planner_takeAsThePlan_85 : decode prog_6_method_15_code 85 = .ok (.checkcast 53, 3) := by decide +kernel
theorem d_Planner_takeAsThePlan_88 : decode prog_6_method_15_code 88 = .ok (.invokevirtual 106, 3) := by decide +kernel
theorem d_Planner_takeAsThePlan_91 : decode prog_6_method_15_code 91 = .ok (.invokevirtual 164, 3) := by decide +kernel
theorem d_Planner_takeAsThePlan_94 : decode prog_6_method_15_code 94 = .ok (.iinc 1 1, 3) := by decide +kernel
theorem d_Planner_takeAsThePlan_97 : decode prog_6_method_15_code 97 = .ok (.goto (-42), 3) := by decide +kernel
theorem d_Planner_takeAsThePlan_100 : decode prog_6_method_15_code 100 = .ok (.return_, 1) := by decide +kernel
theorem d_Row_init_0 : decode prog_7_method_1_code 0 = .ok (.aload_n 0, 1) := by decide +kernel
theorem d_Row_init_1 : decode prog_7_method_1_code 1 = .ok (.invokespecial 3, 3) := by decide +kernel
theorem d_Row_init_4 : decode prog_7_method_1_code 4 = .ok (.aload_n 0, 1) := by decide +kernel
theorem d_Row_init_5 : decode prog_7_method_1_code 5 = .ok (.bipush 60, 2) := by decide +kernel
theorem d_Row_init_7 : decode prog_7_method_1_code 7 = .ok (.newarray .long, 2) := by decide +kernel
theorem d_Row_init_9 : decode prog_7_method_1_code 9 = .ok (.putfield 9, 3) := by decide +kernel
theorem d_Row_init_12 : decode prog_7_method_1_code 12 = .ok (.return_, 1) := by decide +kernel
theorem d_Row_renew_0 : decode prog_7_method_2_code 0 = .ok (.aload_n 0, 1) := by decide +kernel
theorem d_Row_renew_1 : decode prog_7_method_2_code 1 = .ok (.iload_n 1, 1) := by decide +kernel
theorem d_Row_renew_2 : decode prog_7_method_2_code 2 = .ok (.iconst 0, 1) := by decide +kernel
theorem d_Row_renew_3 : decode prog_7_method_2_code 3 = .ok (.iconst 3, 1) := by decide +kernel
theorem d_Row_renew_4 : decode prog_7_method_2_code 4 = .ok (.invokestatic 15, 3) := by decide +kernel
theorem d_Row_renew_7 : decode prog_7_method_2_code 7 = .ok (.ifCond .eq 7, 3) := by decide +kernel
theorem d_Row_renew_10 : decode prog_7_method_2_code 10 = .ok (.iload_n 1, 1) := by decide +kernel
theorem d_Row_renew_11 : decode prog_7_method_2_code 11 = .ok (.goto 4, 3) := by decide +kernel
theorem d_Row_renew_14 : decode prog_7_method_2_code 14 = .ok (.iconst 0, 1) := by decide +kernel
theorem d_Row_renew_15 : decode prog_7_method_2_code 15 = .ok (.putfield 19, 3) := by decide +kernel
theorem d_Row_renew_18 : decode prog_7_method_2_code 18 = .ok (.aload_n 0, 1) := by decide +kernel
theorem d_Row_renew_19 : decode prog_7_method_2_code 19 = .ok (.iconst 0, 1) := by decide +kernel
theorem d_Row_renew_20 : decode prog_7_method_2_code 20 = .ok (.iload_n 2, 1) := by decide +kernel
theorem d_Row_renew_21 : decode prog_7_method_2_code 21 = .ok (.bipush 60, 2) := by decide +kernel
theorem d_Row_renew_23 : decode prog_7_method_2_code 23 = .ok (.invokestatic 23, 3) := by decide +kernel
theorem d_Row_renew_26 : decode prog_7_method_2_code 26 = .ok (.invokestatic 29, 3) := by decide +kernel
theorem d_Row_renew_29 : decode prog_7_method_2_code 29 = .ok (.putfield 32, 3) := by decide +kernel
theorem d_Row_renew_32 : decode prog_7_method_2_code 32 = .ok (.aload_n 0, 1) := by decide +kernel
theorem d_Row_renew_33 : decode prog_7_method_2_code 33 = .ok (.getfield 9, 3) := by decide +kernel
theorem d_Row_renew_36 : decode prog_7_method_2_code 36 = .ok (.lconst 0, 1) := by decide +kernel
theorem d_Row_renew_37 : decode prog_7_method_2_code 37 = .ok (.invokestatic 35, 3) := by decide +kernel
theorem d_Row_renew_40 : decode prog_7_method_2_code 40 = .ok (.return_, 1) := by decide +kernel
theorem d_Row_takeOver_0 : decode prog_7_method_3_code 0 = .ok (.aload_n 0, 1) := by decide +kernel
theorem d_Row_takeOver_1 : decode prog_7_method_3_code 1 = .ok (.aload_n 1, 1) := by decide +kernel
theorem d_Row_takeOver_2 : decode prog_7_method_3_code 2 = .ok (.getfield 19, 3) := by decide +kernel
theorem d_Row_takeOver_5 : decode prog_7_method_3_code 5 = .ok (.aload_n 1, 1) := by decide +kernel
theorem d_Row_takeOver_6 : decode prog_7_method_3_code 6 = .ok (.getfield 32, 3) := by decide +kernel
theorem d_Row_takeOver_9 : decode prog_7_method_3_code 9 = .ok (.invokevirtual 41, 3) := by decide +kernel
theorem d_Row_takeOver_12 : decode prog_7_method_3_code 12 = .ok (.aload_n 1, 1) := by decide +kernel
theorem d_Row_takeOver_13 : decode prog_7_method_3_code 13 = .ok (.getfield 9, 3) := by decide +kernel
theorem d_Row_takeOver_16 : decode prog_7_method_3_code 16 = .ok (.iconst 0, 1) := by decide +kernel
theorem d_Row_takeOver_17 : decode prog_7_method_3_code 17 = .ok (.aload_n 0, 1) := by decide +kernel
theorem d_Row_takeOver_18 : decode prog_7_method_3_code 18 = .ok (.getfield 9, 3) := by decide +kernel
theorem d_Row_takeOver_21 : decode prog_7_method_3_code 21 = .ok (.iconst 0, 1) := by decide +kernel
theorem d_Row_takeOver_22 : decode prog_7_method_3_code 22 = .ok (.bipush 60, 2) := by decide +kernel
theorem d_Row_takeOver_24 : decode prog_7_method_3_code 24 = .ok (.invokestatic 45, 3) := by decide +kernel
theorem d_Row_takeOver_27 : decode prog_7_method_3_code 27 = .ok (.return_, 1) := by decide +kernel
theorem d_Row_sort_0 : decode prog_7_method_4_code 0 = .ok (.aload_n 0, 1) := by decide +kernel
theorem d_Row_sort_1 : decode prog_7_method_4_code 1 = .ok (.getfield 19, 3) := by decide +kernel
theorem d_Row_sort_4 : decode prog_7_method_4_code 4 = .ok (.ireturn, 1) := by decide +kernel
theorem d_Row_size_0 : decode prog_7_method_5_code 0 = .ok (.aload_n 0, 1) := by decide +kernel
theorem d_Row_size_1 : decode prog_7_method_5_code 1 = .ok (.getfield 32, 3) := by decide +kernel
theorem d_Row_size_4 : decode prog_7_method_5_code 4 = .ok (.ireturn, 1) := by decide +kernel
theorem d_Row_has_0 : decode prog_7_method_6_code 0 = .ok (.iconst 0, 1) := by decide +kernel
theorem d_Row_has_1 : decode prog_7_method_6_code 1 = .ok (.iload_n 1, 1) := by decide +kernel
theorem d_Row_has_2 : decode prog_7_method_6_code 2 = .ok (.if_icmp .gt 15, 3) := by decide +kernel
theorem d_Row_has_5 : decode prog_7_method_6_code 5 = .ok (.iload_n 1, 1) := by decide +kernel
theorem d_Row_has_6 : decode prog_7_method_6_code 6 = .ok (.aload_n 0, 1) := by decide +kernel
theorem d_Row_has_7 : decode prog_7_method_6_code 7 = .ok (.getfield 32, 3) := by decide +kernel
theorem d_Row_has_10 : decode prog_7_method_6_code 10 = .ok (.if_icmp .ge 7, 3) := by decide +kernel
theorem d_Row_has_13 : decode prog_7_method_6_code 13 = .ok (.iconst 1, 1) := by decide +kernel
theorem d_Row_has_14 : decode prog_7_method_6_code 14 = .ok (.goto 4, 3) := by decide +kernel
theorem d_Row_has_17 : decode prog_7_method_6_code 17 = .ok (.iconst 0, 1) := by decide +kernel
theorem d_Row_has_18 : decode prog_7_method_6_code 18 = .ok (.ireturn, 1) := by decide +kernel
theorem d_Row_hasPart_0 : decode prog_7_method_7_code 0 = .ok (.iload_n 1, 1) := by decide +kernel
theorem d_Row_hasPart_1 : decode prog_7_method_7_code 1 = .ok (.ifCond .lt 25, 3) := by decide +kernel
theorem d_Row_hasPart_4 : decode prog_7_method_7_code 4 = .ok (.iload_n 2, 1) := by decide +kernel
theorem d_Row_hasPart_5 : decode prog_7_method_7_code 5 = .ok (.ifCond .lt 21, 3) := by decide +kernel
theorem d_Row_hasPart_8 : decode prog_7_method_7_code 8 = .ok (.iload_n 1, 1) := by decide +kernel
theorem d_Row_hasPart_9 : decode prog_7_method_7_code 9 = .ok (.i2l, 1) := by decide +kernel
theorem d_Row_hasPart_10 : decode prog_7_method_7_code 10 = .ok (.iload_n 2, 1) := by decide +kernel
theorem d_Row_hasPart_11 : decode prog_7_method_7_code 11 = .ok (.i2l, 1) := by decide +kernel
theorem d_Row_hasPart_12 : decode prog_7_method_7_code 12 = .ok (.ladd, 1) := by decide +kernel
theorem d_Row_hasPart_13 : decode prog_7_method_7_code 13 = .ok (.aload_n 0, 1) := by decide +kernel
theorem d_Row_hasPart_14 : decode prog_7_method_7_code 14 = .ok (.getfield 32, 3) := by decide +kernel
theorem d_Row_hasPart_17 : decode prog_7_method_7_code 17 = .ok (.i2l, 1) := by decide +kernel
theorem d_Row_hasPart_18 : decode prog_7_method_7_code 18 = .ok (.lcmp, 1) := by decide +kernel
theorem d_Row_hasPart_19 : decode prog_7_method_7_code 19 = .ok (.ifCond .gt 7, 3) := by decide +kernel
theorem d_Row_hasPart_22 : decode prog_7_method_7_code 22 = .ok (.iconst 1, 1) := by decide +kernel
theorem d_Row_hasPart_23 : decode prog_7_method_7_code 23 = .ok (.goto 4, 3) := by decide +kernel
theorem d_Row_hasPart_26 : decode prog_7_method_7_code 26 = .ok (.iconst 0, 1) := by decide +kernel
theorem d_Row_hasPart_27 : decode prog_7_method_7_code 27 = .ok (.ireturn, 1) := by decide +kernel
theorem d_Row_at_0 : decode prog_7_method_8_code 0 = .ok (.aload_n 0, 1) := by decide +kernel
theorem d_Row_at_1 : decode prog_7_method_8_code 1 = .ok (.iload_n 1, 1) := by decide +kernel
theorem d_Row_at_2 : decode prog_7_method_8_code 2 = .ok (.invokevirtual 51, 3) := by decide +kernel
theorem d_Row_at_5 : decode prog_7_method_8_code 5 = .ok (.ifCond .eq 12, 3) := by decide +kernel
theorem d_Row_at_8 : decode prog_7_method_8_code 8 = .ok (.aload_n 0, 1) := by decide +kernel
theorem d_Row_at_9 : decode prog_7_method_8_code 9 = .ok (.getfield 9, 3) := by decide +kernel
theorem d_Row_at_12 : decode prog_7_method_8_code 12 = .ok (.iload_n 1, 1) := by decide +kernel
theorem d_Row_at_13 : decode prog_7_method_8_code 13 = .ok (.laload, 1) := by decide +kernel
theorem d_Row_at_14 : decode prog_7_method_8_code 14 = .ok (.goto 4, 3) := by decide +kernel
theorem d_Row_at_17 : decode prog_7_method_8_code 17 = .ok (.lconst 0, 1) := by decide +kernel
theorem d_Row_at_18 : decode prog_7_method_8_code 18 = .ok (.lreturn, 1) := by decide +kernel
theorem d_Row_put_0 : decode prog_7_method_9_code 0 = .ok (.aload_n 0, 1) := by decide +kernel
theorem d_Row_put_1 : decode prog_7_method_9_code 1 = .ok (.iload_n 1, 1) := by decide +kernel
theorem d_Row_put_2 : decode prog_7_method_9_code 2 = .ok (.invokevirtual 51, 3) := by decide +kernel
theorem d_Row_put_5 : decode prog_7_method_9_code 5 = .ok (.ifCond .eq 14, 3) := by decide +kernel
theorem d_Row_put_8 : decode prog_7_method_9_code 8 = .ok (.aload_n 0, 1) := by decide +kernel
theorem d_Row_put_9 : decode prog_7_method_9_code 9 = .ok (.getfield 9, 3) := by decide +kernel
theorem d_Row_put_12 : decode prog_7_method_9_code 12 = .ok (.iload_n 1, 1) := by decide +kernel
theorem d_Row_put_13 : decode prog_7_method_9_code 13 = .ok (.aload_n 0, 1) := by decide +kernel
theorem d_Row_put_14 : decode prog_7_method_9_code 14 = .ok (.lload_n 2, 1) := by decide +kernel
theorem d_Row_put_15 : decode prog_7_method_9_code 15 = .ok (.invokevirtual 55, 3) := by decide +kernel
theorem d_Row_put_18 : decode prog_7_method_9_code 18 = .ok (.lastore, 1) := by decide +kernel
theorem d_Row_put_19 : decode prog_7_method_9_code 19 = .ok (.return_, 1) := by decide +kernel
theorem d_Row_lowestBits_0 : decode prog_7_method_10_code 0 = .ok (.aload_n 0, 1) := by decide +kernel
theorem d_Row_lowestBits_1 : decode prog_7_method_10_code 1 = .ok (.getfield 19, 3) := by decide +kernel
theorem d_Row_lowestBits_4 : decode prog_7_method_10_code 4 = .ok (.tableswitch 42 0 2 #[28, 33, 38], 28) := by decide +kernel
theorem d_Row_lowestBits_32 : decode prog_7_method_10_code 32 = .ok (.lload_n 1, 1) := by decide +kernel
theorem d_Row_lowestBits_33 : decode prog_7_method_10_code 33 = .ok (.l2i, 1) := by decide +kernel
theorem d_Row_lowestBits_34 : decode prog_7_method_10_code 34 = .ok (.i2b, 1) := by decide +kernel
theorem d_Row_lowestBits_35 : decode prog_7_method_10_code 35 = .ok (.i2l, 1) := by decide +kernel
theorem d_Row_lowestBits_36 : decode prog_7_method_10_code 36 = .ok (.lreturn, 1) := by decide +kernel
theorem d_Row_lowestBits_37 : decode prog_7_method_10_code 37 = .ok (.lload_n 1, 1) := by decide +kernel
theorem d_Row_lowestBits_38 : decode prog_7_method_10_code 38 = .ok (.l2i, 1) := by decide +kernel
theorem d_Row_lowestBits_39 : decode prog_7_method_10_code 39 = .ok (.i2s, 1) := by decide +kernel
theorem d_Row_lowestBits_40 : decode prog_7_method_10_code 40 = .ok (.i2l, 1) := by decide +kernel
theorem d_Row_lowestBits_41 : decode prog_7_method_10_code 41 = .ok (.lreturn, 1) := by decide +kernel
theorem d_Row_lowestBits_42 : decode prog_7_method_10_code 42 = .ok (.lload_n 1, 1) := by decide +kernel
theorem d_Row_lowestBits_43 : decode prog_7_method_10_code 43 = .ok (.l2i, 1) := by decide +kernel
theorem d_Row_lowestBits_44 : decode prog_7_method_10_code 44 = .ok (.i2l, 1) := by decide +kernel
theorem d_Row_lowestBits_45 : decode prog_7_method_10_code 45 = .ok (.lreturn, 1) := by decide +kernel
theorem d_Row_lowestBits_46 : decode prog_7_method_10_code 46 = .ok (.lload_n 1, 1) := by decide +kernel
theorem d_Row_lowestBits_47 : decode prog_7_method_10_code 47 = .ok (.lreturn, 1) := by decide +kernel
theorem d_Row_putPart_0 : decode prog_7_method_11_code 0 = .ok (.aload_n 2, 1) := by decide +kernel
theorem d_Row_putPart_1 : decode prog_7_method_11_code 1 = .ok (.iload_n 3, 1) := by decide +kernel
theorem d_Row_putPart_2 : decode prog_7_method_11_code 2 = .ok (.iload 4, 2) := by decide +kernel
theorem d_Row_putPart_4 : decode prog_7_method_11_code 4 = .ok (.invokevirtual 59, 3) := by decide +kernel
theorem d_Row_putPart_7 : decode prog_7_method_11_code 7 = .ok (.ifCond .eq 28, 3) := by decide +kernel
theorem d_Row_putPart_10 : decode prog_7_method_11_code 10 = .ok (.aload_n 0, 1) := by decide +kernel
theorem d_Row_putPart_11 : decode prog_7_method_11_code 11 = .ok (.iload_n 1, 1) := by decide +kernel
theorem d_Row_putPart_12 : decode prog_7_method_11_code 12 = .ok (.iload 4, 2) := by decide +kernel
theorem d_Row_putPart_14 : decode prog_7_method_11_code 14 = .ok (.invokevirtual 59, 3) := by decide +kernel
theorem d_Row_putPart_17 : decode prog_7_method_11_code 17 = .ok (.ifCond .eq 18, 3) := by decide +kernel
theorem d_Row_putPart_20 : decode prog_7_method_11_code 20 = .ok (.aload_n 2, 1) := by decide +kernel
theorem d_Row_putPart_21 : decode prog_7_method_11_code 21 = .ok (.getfield 9, 3) := by decide +kernel
theorem d_Row_putPart_24 : decode prog_7_method_11_code 24 = .ok (.iload_n 3, 1) := by decide +kernel
theorem d_Row_putPart_25 : decode prog_7_method_11_code 25 = .ok (.aload_n 0, 1) := by decide +kernel
theorem d_Row_putPart_26 : decode prog_7_method_11_code 26 = .ok (.getfield 9, 3) := by decide +kernel
theorem d_Row_putPart_29 : decode prog_7_method_11_code 29 = .ok (.iload_n 1, 1) := by decide +kernel
theorem d_Row_putPart_30 : decode prog_7_method_11_code 30 = .ok (.iload 4, 2) := by decide +kernel
theorem d_Row_putPart_32 : decode prog_7_method_11_code 32 = .ok (.invokestatic 45, 3) := by decide +kernel
theorem d_Row_putPart_35 : decode prog_7_method_11_code 35 = .ok (.return_, 1) := by decide +kernel
theorem d_Row_airOf_0 : decode prog_7_method_12_code 0 = .ok (.aload_n 0, 1) := by decide +kernel
theorem d_Row_airOf_1 : decode prog_7_method_12_code 1 = .ok (.getfield 32, 3) := by decide +kernel
theorem d_Row_airOf_4 : decode prog_7_method_12_code 4 = .ok (.ifCond .le 16, 3) := by decide +kernel
theorem d_Row_airOf_7 : decode prog_7_method_12_code 7 = .ok (.iload_n 1, 1) := by decide +kernel
theorem d_Row_airOf_8 : decode prog_7_method_12_code 8 = .ok (.ifCond .lt 12, 3) := by decide +kernel
theorem d_Row_airOf_11 : decode prog_7_method_12_code 11 = .ok (.iload_n 1, 1) := by decide +kernel
theorem d_Row_airOf_12 : decode prog_7_method_12_code 12 = .ok (.aload_n 0, 1) := by decide +kernel
theorem d_Row_airOf_13 : decode prog_7_method_12_code 13 = .ok (.getfield 32, 3) := by decide +kernel
theorem d_Row_airOf_16 : decode prog_7_method_12_code 16 = .ok (.irem, 1) := by decide +kernel
theorem d_Row_airOf_17 : decode prog_7_method_12_code 17 = .ok (.goto 4, 3) := by decide +kernel
theorem d_Row_airOf_20 : decode prog_7_method_12_code 20 = .ok (.iconst (-1), 1) := by decide +kernel
theorem d_Row_airOf_21 : decode prog_7_method_12_code 21 = .ok (.istore_n 2, 1) := by decide +kernel
theorem d_Row_airOf_22 : decode prog_7_method_12_code 22 = .ok (.aload_n 0, 1) := by decide +kernel
theorem d_Row_airOf_23 : decode prog_7_method_12_code 23 = .ok (.iload_n 2, 1) := by decide +kernel
theorem d_Row_airOf_24 : decode prog_7_method_12_code 24 = .ok (.invokevirtual 51, 3) := by decide +kernel
theorem d_Row_airOf_27 : decode prog_7_method_12_code 27 = .ok (.ifCond .eq 21, 3) := by decide +kernel
theorem d_Row_airOf_30 : decode prog_7_method_12_code 30 = .ok (.aload_n 0, 1) := by decide +kernel
theorem d_Row_airOf_31 : decode prog_7_method_12_code 31 = .ok (.getfield 9, 3) := by decide +kernel
theorem d_Row_airOf_34 : decode prog_7_method_12_code 34 = .ok (.iload_n 2, 1) := by decide +kernel
theorem d_Row_airOf_35 : decode prog_7_method_12_code 35 = .ok (.laload, 1) := by decide +kernel
theorem d_Row_airOf_36 : decode prog_7_method_12_code 36 = .ok (.getstatic 63, 3) := by decide +kernel
theorem d_Row_airOf_39 : decode prog_7_method_12_code 39 = .ok (.aload_n 0, 1) := by decide +kernel
theorem d_Row_airOf_40 : decode prog_7_method_12_code 40 = .ok (.getfield 19, 3) := by decide +kernel
theorem d_Row_airOf_43 : decode prog_7_method_12_code 43 = .ok (.laload, 1) := by decide +kernel
theorem d_Row_airOf_44 : decode prog_7_method_12_code 44 = .ok (.lcmp, 1) := by decide +kernel
theorem d_Row_airOf_45 : decode prog_7_method_12_code 45 = .ok (.ifCond .ne 9, 3) := by decide +kernel
theorem d_Row_airOf_48 : decode prog_7_method_12_code 48 = .ok (.ldc2_w 66, 3) := by decide +kernel
theorem d_Row_airOf_51 : decode prog_7_method_12_code 51 = .ok (.goto 11, 3) := by decide +kernel
theorem d_Row_airOf_54 : decode prog_7_method_12_code 54 = .ok (.aload_n 0, 1) := by decide +kernel
theorem d_Row_airOf_55 : decode prog_7_method_12_code 55 = .ok (.getfield 9, 3) := by decide +kernel
theorem d_Row_airOf_58 : decode prog_7_method_12_code 58 = .ok (.iload_n 2, 1) := by decide +kernel
theorem d_Row_airOf_59 : decode prog_7_method_12_code 59 = .ok (.laload, 1) := by decide +kernel
theorem d_Row_airOf_60 : decode prog_7_method_12_code 60 = .ok (.l2i, 1) := by decide +kernel
theorem d_Row_airOf_61 : decode prog_7_method_12_code 61 = .ok (.i2l, 1) := by decide +kernel
theorem d_Row_airOf_62 : decode prog_7_method_12_code 62 = .ok (.lreturn, 1) := by decide +kernel
theorem d_Row_agrees_0 : decode prog_7_method_13_code 0 = .ok (.aload_n 0, 1) := by decide +kernel
theorem d_Row_agrees_1 : decode prog_7_method_13_code 1 = .ok (.iload_n 2, 1) := by decide +kernel
theorem d_Row_agrees_2 : decode prog_7_method_13_code 2 = .ok (.invokevirtual 51, 3) := by decide +kernel
theorem d_Row_agrees_5 : decode prog_7_method_13_code 5 = .ok (.ifCond .eq 29, 3) := by decide +kernel
theorem d_Row_agrees_8 : decode prog_7_method_13_code 8 = .ok (.aload_n 1, 1) := by decide +kernel
theorem d_Row_agrees_9 : decode prog_7_method_13_code 9 = .ok (.iload_n 2, 1) := by decide +kernel
theorem d_Row_agrees_10 : decode prog_7_method_13_code 10 = .ok (.invokevirtual 51, 3) := by decide +kernel
theorem d_Row_agrees_13 : decode prog_7_method_13_code 13 = .ok (.ifCond .eq 21, 3) := by decide +kernel
theorem d_Row_agrees_16 : decode prog_7_method_13_code 16 = .ok (.aload_n 0, 1) := by decide +kernel
theorem d_Row_agrees_17 : decode prog_7_method_13_code 17 = .ok (.iload_n 2, 1) := by decide +kernel
theorem d_Row_agrees_18 : decode prog_7_method_13_code 18 = .ok (.invokevirtual 68, 3) := by decide +kernel
theorem d_Row_agrees_21 : decode prog_7_method_13_code 21 = .ok (.aload_n 1, 1) := by decide +kernel
theorem d_Row_agrees_22 : decode prog_7_method_13_code 22 = .ok (.iload_n 2, 1) := by decide +kernel
theorem d_Row_agrees_23 : decode prog_7_method_13_code 23 = .ok (.invokevirtual 68, 3) := by decide +kernel
theorem d_Row_agrees_26 : decode prog_7_method_13_code 26 = .ok (.lcmp, 1) := by decide +kernel
theorem d_Row_agrees_27 : decode prog_7_method_13_code 27 = .ok (.ifCond .ne 7, 3) := by decide +kernel
theorem d_Row_agrees_30 : decode prog_7_method_13_code 30 = .ok (.iconst 1, 1) := by decide +kernel
theorem d_Row_agrees_31 : decode prog_7_method_13_code 31 = .ok (.goto 4, 3) := by decide +kernel
theorem d_Row_agrees_34 : decode prog_7_method_13_code 34 = .ok (.iconst 0, 1) := by decide +kernel
theorem d_Row_agrees_35 : decode prog_7_method_13_code 35 = .ok (.ireturn, 1) := by decide +kernel
theorem d_Row_alike_0 : decode prog_7_method_14_code 0 = .ok (.aload_n 0, 1) := by decide +kernel
theorem d_Row_alike_1 : decode prog_7_method_14_code 1 = .ok (.aload_n 1, 1) := by decide +kernel
theorem d_Row_alike_2 : decode prog_7_method_14_code 2 = .ok (.iload 4, 2) := by decide +kernel
theorem d_Row_alike_4 : decode prog_7_method_14_code 4 = .ok (.invokevirtual 72, 3) := by decide +kernel
theorem d_Row_alike_7 : decode prog_7_method_14_code 7 = .ok (.ifCond .eq 7, 3) := by decide +kernel
theorem d_Row_alike_10 : decode prog_7_method_14_code 10 = .ok (.iconst 1, 1) := by decide +kernel
theorem d_Row_alike_11 : decode prog_7_method_14_code 11 = .ok (.goto 4, 3) := by decide +kernel
theorem d_Row_alike_14 : decode prog_7_method_14_code 14 = .ok (.iconst 0, 1) := by decide +kernel
theorem d_Row_alike_15 : decode prog_7_method_14_code 15 = .ok (.aload_n 0, 1) := by decide +kernel
theorem d_Row_alike_16 : decode prog_7_method_14_code 16 = .ok (.aload_n 2, 1) := by decide +kernel
theorem d_Row_alike_17 : decode prog_7_method_14_code 17 = .ok (.iload 4, 2) := by decide +kernel
theorem d_Row_alike_19 : decode prog_7_method_14_code 19 = .ok (.invokevirtual 72, 3) := by decide +kernel
theorem d_Row_alike_22 : decode prog_7_method_14_code 22 = .ok (.ifCond .eq 7, 3) := by decide +kernel
theorem d_Row_alike_25 : decode prog_7_method_14_code 25 = .ok (.iconst 1, 1) := by decide +kernel
theorem d_Row_alike_26 : decode prog_7_method_14_code 26 = .ok (.goto 4, 3) := by decide +kernel
theorem d_Row_alike_29 : decode prog_7_method_14_code 29 = .ok (.iconst 0, 1) := by decide +kernel
theorem d_Row_alike_30 : decode prog_7_method_14_code 30 = .ok (.iadd, 1) := by decide +kernel
theorem d_Row_alike_31 : decode prog_7_method_14_code 31 = .ok (.aload_n 0, 1) := by decide +kernel
theorem d_Row_alike_32 : decode prog_7_method_14_code 32 = .ok (.aload_n 3, 1) := by decide +kernel
theorem d_Row_alike_33 : decode prog_7_method_14_code 33 = .ok (.iload 4, 2) := by decide +kernel
theorem d_Row_alike_35 : decode prog_7_method_14_code 35 = .ok (.invokevirtual 72, 3) := by decide +kernel
theorem d_Row_alike_38 : decode prog_7_method_14_code 38 = .ok (.ifCond .eq 7, 3) := by decide +kernel
theorem d_Row_alike_41 : decode prog_7_method_14_code 41 = .ok (.iconst 1, 1) := by decide +kernel
theorem d_Row_alike_42 : decode prog_7_method_14_code 42 = .ok (.goto 4, 3) := by decide +kernel
theorem d_Row_alike_45 : decode prog_7_method_14_code 45 = .ok (.iconst 0, 1) := by decide +kernel
theorem d_Row_alike_46 : decode prog_7_method_14_code 46 = .ok (.iadd, 1) := by decide +kernel
theorem d_Row_alike_47 : decode prog_7_method_14_code 47 = .ok (.ireturn, 1) := by decide +kernel
theorem d_Row_mostAlike_0 : decode prog_7_method_15_code 0 = .ok (.aload_n 0, 1) := by decide +kernel
theorem d_Row_mostAlike_1 : decode prog_7_method_15_code 1 = .ok (.ifnull 11, 3) := by decide +kernel
theorem d_Row_mostAlike_4 : decode prog_7_method_15_code 4 = .ok (.aload_n 1, 1) := by decide +kernel
theorem d_Row_mostAlike_5 : decode prog_7_method_15_code 5 = .ok (.ifnull 7, 3) := by decide +kernel
theorem d_Row_mostAlike_8 : decode prog_7_method_15_code 8 = .ok (.aload_n 2, 1) := by decide +kernel
theorem d_Row_mostAlike_9 : decode prog_7_method_15_code 9 = .ok (.ifnonnull 5, 3) := by decide +kernel
theorem d_Row_mostAlike_12 : decode prog_7_method_15_code 12 = .ok (.iconst 0, 1) := by decide +kernel
theorem d_Row_mostAlike_13 : decode prog_7_method_15_code 13 = .ok (.ireturn, 1) := by decide +kernel
theorem d_Row_mostAlike_14 : decode prog_7_method_15_code 14 = .ok (.aload_n 0, 1) := by decide +kernel
theorem d_Row_mostAlike_15 : decode prog_7_method_15_code 15 = .ok (.aload_n 0, 1) := by decide +kernel
theorem d_Row_mostAlike_16 : decode prog_7_method_15_code 16 = .ok (.aload_n 1, 1) := by decide +kernel
theorem d_Row_mostAlike_17 : decode prog_7_method_15_code 17 = .ok (.aload_n 2, 1) := by decide +kernel
theorem d_Row_mostAlike_18 : decode prog_7_method_15_code 18 = .ok (.iload_n 3, 1) := by decide +kernel
theorem d_Row_mostAlike_19 : decode prog_7_method_15_code 19 = .ok (.invokestatic 76, 3) := by decide +kernel
theorem d_Row_mostAlike_22 : decode prog_7_method_15_code 22 = .ok (.aload_n 1, 1) := by decide +kernel
theorem d_Row_mostAlike_23 : decode prog_7_method_15_code 23 = .ok (.aload_n 0, 1) := by decide +kernel
theorem d_Row_mostAlike_24 : decode prog_7_method_15_code 24 = .ok (.aload_n 1, 1) := by decide +kernel
theorem d_Row_mostAlike_25 : decode prog_7_method_15_code 25 = .ok (.aload_n 2, 1) := by decide +kernel
theorem d_Row_mostAlike_26 : decode prog_7_method_15_code 26 = .ok (.iload_n 3, 1) := by decide +kernel
theorem d_Row_mostAlike_27 : decode prog_7_method_15_code 27 = .ok (.invokestatic 76, 3) := by decide +kernel
theorem d_Row_mostAlike_30 : decode prog_7_method_15_code 30 = .ok (.invokestatic 29, 3) := by decide +kernel
theorem d_Row_mostAlike_33 : decode prog_7_method_15_code 33 = .ok (.istore 4, 2) := by decide +kernel
theorem d_Row_mostAlike_35 : decode prog_7_method_15_code 35 = .ok (.iload 4, 2) := by decide +kernel
theorem d_Row_mostAlike_37 : decode prog_7_method_15_code 37 = .ok (.aload_n 2, 1) := by decide +kernel
theorem d_Row_mostAlike_38 : decode prog_7_method_15_code 38 = .ok (.aload_n 0, 1) := by decide +kernel
theorem d_Row_mostAlike_39 : decode prog_7_method_15_code 39 = .ok (.aload_n 1, 1) := by decide +kernel
theorem d_Row_mostAlike_40 : decode prog_7_method_15_code 40 = .ok (.aload_n 2, 1) := by decide +kernel
theorem d_Row_mostAlike_41 : decode prog_7_method_15_code 41 = .ok (.iload_n 3, 1) := by decide +kernel
theorem d_Row_mostAlike_42 : decode prog_7_method_15_code 42 = .ok (.invokestatic 76, 3) := by decide +kernel
theorem d_Row_mostAlike_45 : decode prog_7_method_15_code 45 = .ok (.invokestatic 29, 3) := by decide +kernel
theorem d_Row_mostAlike_48 : decode prog_7_method_15_code 48 = .ok (.ireturn, 1) := by decide +kernel
theorem d_Sets_clear_0 : decode prog_8_method_2_code 0 = .ok (.aload_n 0, 1) := by decide +kernel
theorem d_Sets_clear_1 : decode prog_8_method_2_code 1 = .ok (.ldc2_w 9, 3) := by decide +kernel
theorem d_Sets_clear_4 : decode prog_8_method_2_code 4 = .ok (.invokestatic 11, 3) := by decide +kernel
theorem d_Sets_clear_7 : decode prog_8_method_2_code 7 = .ok (.aload_n 0, 1) := by decide +kernel
theorem d_Sets_clear_8 : decode prog_8_method_2_code 8 = .ok (.arraylength, 1) := by decide +kernel
theorem d_Sets_clear_9 : decode prog_8_method_2_code 9 = .ok (.ifCond .le 7, 3) := by decide +kernel
theorem d_Sets_clear_12 : decode prog_8_method_2_code 12 = .ok (.aload_n 0, 1) := by decide +kernel
theorem d_Sets_clear_13 : decode prog_8_method_2_code 13 = .ok (.iconst 0, 1) := by decide +kernel
theorem d_Sets_clear_14 : decode prog_8_method_2_code 14 = .ok (.lconst 0, 1) := by decide +kernel
theorem d_Sets_clear_15 : decode prog_8_method_2_code 15 = .ok (.lastore, 1) := by decide +kernel
theorem d_Sets_clear_16 : decode prog_8_method_2_code 16 = .ok (.return_, 1) := by decide +kernel
theorem d_Sets_sum_0 : decode prog_8_method_3_code 0 = .ok (.lload_n 0, 1) := by decide +kernel
theorem d_Sets_sum_1 : decode prog_8_method_3_code 1 = .ok (.ldc2_w 9, 3) := by decide +kernel
theorem d_Sets_sum_4 : decode prog_8_method_3_code 4 = .ok (.lcmp, 1) := by decide +kernel
theorem d_Sets_sum_5 : decode prog_8_method_3_code 5 = .ok (.ifCond .eq 11, 3) := by decide +kernel
theorem d_Sets_sum_8 : decode prog_8_method_3_code 8 = .ok (.lload_n 2, 1) := by decide +kernel
theorem d_Sets_sum_9 : decode prog_8_method_3_code 9 = .ok (.ldc2_w 9, 3) := by decide +kernel
theorem d_Sets_sum_12 : decode prog_8_method_3_code 12 = .ok (.lcmp, 1) := by decide +kernel
theorem d_Sets_sum_13 : decode prog_8_method_3_code 13 = .ok (.ifCond .ne 9, 3) := by decide +kernel
theorem d_Sets_sum_16 : decode prog_8_method_3_code 16 = .ok (.ldc2_w 9, 3) := by decide +kernel
theorem d_Sets_sum_19 : decode prog_8_method_3_code 19 = .ok (.goto 6, 3) := by decide +kernel
theorem d_Sets_sum_22 : decode prog_8_method_3_code 22 = .ok (.lload_n 0, 1) := by decide +kernel
theorem d_Sets_sum_23 : decode prog_8_method_3_code 23 = .ok (.lload_n 2, 1) := by decide +kernel
theorem d_Sets_sum_24 : decode prog_8_method_3_code 24 = .ok (.ladd, 1) := by decide +kernel
theorem d_Sets_sum_25 : decode prog_8_method_3_code 25 = .ok (.lreturn, 1) := by decide +kernel
theorem d_Sets_join_0 : decode prog_8_method_4_code 0 = .ok (.iload_n 2, 1) := by decide +kernel
theorem d_Sets_join_1 : decode prog_8_method_4_code 1 = .ok (.aload_n 0, 1) := by decide +kernel
theorem d_Sets_join_2 : decode prog_8_method_4_code 2 = .ok (.arraylength, 1) := by decide +kernel
theorem d_Sets_join_3 : decode prog_8_method_4_code 3 = .ok (.aload_n 1, 1) := by decide +kernel
theorem d_Sets_join_4 : decode prog_8_method_4_code 4 = .ok (.arraylength, 1) := by decide +kernel
theorem d_Sets_join_5 : decode prog_8_method_4_code 5 = .ok (.invokestatic 17, 3) := by decide +kernel
theorem d_Sets_join_8 : decode prog_8_method_4_code 8 = .ok (.invokestatic 17, 3) := by decide +kernel
theorem d_Sets_join_11 : decode prog_8_method_4_code 11 = .ok (.istore_n 3, 1) := by decide +kernel
theorem d_Sets_join_12 : decode prog_8_method_4_code 12 = .ok (.aload_n 1, 1) := by decide +kernel
theorem d_Sets_join_13 : decode prog_8_method_4_code 13 = .ok (.iload_n 3, 1) := by decide +kernel
theorem d_Sets_join_14 : decode prog_8_method_4_code 14 = .ok (.invokestatic 23, 3) := by decide +kernel
theorem d_Sets_join_17 : decode prog_8_method_4_code 17 = .ok (.ifCond .eq 4, 3) := by decide +kernel
theorem d_Sets_join_20 : decode prog_8_method_4_code 20 = .ok (.return_, 1) := by decide +kernel
theorem d_Sets_join_21 : decode prog_8_method_4_code 21 = .ok (.aload_n 0, 1) := by decide +kernel
theorem d_Sets_join_22 : decode prog_8_method_4_code 22 = .ok (.iload_n 3, 1) := by decide +kernel
theorem d_Sets_join_23 : decode prog_8_method_4_code 23 = .ok (.invokestatic 23, 3) := by decide +kernel
theorem d_Sets_join_26 : decode prog_8_method_4_code 26 = .ok (.ifCond .eq 12, 3) := by decide +kernel
theorem d_Sets_join_29 : decode prog_8_method_4_code 29 = .ok (.aload_n 1, 1) := by decide +kernel
theorem d_Sets_join_30 : decode prog_8_method_4_code 30 = .ok (.iconst 0, 1) := by decide +kernel
theorem d_Sets_join_31 : decode prog_8_method_4_code 31 = .ok (.aload_n 0, 1) := by decide +kernel
theorem d_Sets_join_32 : decode prog_8_method_4_code 32 = .ok (.iconst 0, 1) := by decide +kernel
theorem d_Sets_join_33 : decode prog_8_method_4_code 33 = .ok (.iload_n 3, 1) := by decide +kernel
theorem d_Sets_join_34 : decode prog_8_method_4_code 34 = .ok (.invokestatic 27, 3) := by decide +kernel
theorem d_Sets_join_37 : decode prog_8_method_4_code 37 = .ok (.return_, 1) := by decide +kernel
theorem d_Sets_join_38 : decode prog_8_method_4_code 38 = .ok (.iload_n 3, 1) := by decide +kernel
theorem d_Sets_join_39 : decode prog_8_method_4_code 39 = .ok (.iconst 1, 1) := by decide +kernel
theorem d_Sets_join_40 : decode prog_8_method_4_code 40 = .ok (.isub, 1) := by decide +kernel
theorem d_Sets_join_41 : decode prog_8_method_4_code 41 = .ok (.istore 4, 2) := by decide +kernel
theorem d_Sets_join_43 : decode prog_8_method_4_code 43 = .ok (.iload 4, 2) := by decide +kernel
theorem d_Sets_join_45 : decode prog_8_method_4_code 45 = .ok (.ifCond .lt 20, 3) := by decide +kernel
theorem d_Sets_join_48 : decode prog_8_method_4_code 48 = .ok (.aload_n 0, 1) := by decide +kernel
theorem d_Sets_join_49 : decode prog_8_method_4_code 49 = .ok (.iload 4, 2) := by decide +kernel
theorem d_Sets_join_51 : decode prog_8_method_4_code 51 = .ok (.aload_n 0, 1) := by decide +kernel
theorem d_Sets_join_52 : decode prog_8_method_4_code 52 = .ok (.aload_n 1, 1) := by decide +kernel
theorem d_Sets_join_53 : decode prog_8_method_4_code 53 = .ok (.iload 4, 2) := by decide +kernel
theorem d_Sets_join_55 : decode prog_8_method_4_code 55 = .ok (.invokestatic 33, 3) := by decide +kernel
theorem d_Sets_join_58 : decode prog_8_method_4_code 58 = .ok (.lastore, 1) := by decide +kernel
theorem d_Sets_join_59 : decode prog_8_method_4_code 59 = .ok (.iinc 4 (-1), 3) := by decide +kernel
theorem d_Sets_join_62 : decode prog_8_method_4_code 62 = .ok (.goto (-19), 3) := by decide +kernel
theorem d_Sets_join_65 : decode prog_8_method_4_code 65 = .ok (.return_, 1) := by decide +kernel
theorem d_Sets_bestCut_0 : decode prog_8_method_5_code 0 = .ok (.aload_n 0, 1) := by decide +kernel
theorem d_Sets_bestCut_1 : decode prog_8_method_5_code 1 = .ok (.iconst 0, 1) := by decide +kernel
theorem d_Sets_bestCut_2 : decode prog_8_method_5_code 2 = .ok (.laload, 1) := by decide +kernel
theorem d_Sets_bestCut_3 : decode prog_8_method_5_code 3 = .ok (.aload_n 1, 1) := by decide +kernel
theorem d_Sets_bestCut_4 : decode prog_8_method_5_code 4 = .ok (.iload_n 2, 1) := by decide +kernel
theorem d_Sets_bestCut_5 : decode prog_8_method_5_code 5 = .ok (.laload, 1) := by decide +kernel
theorem d_Sets_bestCut_6 : decode prog_8_method_5_code 6 = .ok (.invokestatic 37, 3) := by decide +kernel
theorem d_Sets_bestCut_9 : decode prog_8_method_5_code 9 = .ok (.lstore_n 3, 1) := by decide +kernel
theorem d_Sets_bestCut_10 : decode prog_8_method_5_code 10 = .ok (.iload_n 2, 1) := by decide +kernel
theorem d_Sets_bestCut_11 : decode prog_8_method_5_code 11 = .ok (.istore 5, 2) := by decide +kernel
theorem d_Sets_bestCut_13 : decode prog_8_method_5_code 13 = .ok (.iload 5, 2) := by decide +kernel
theorem d_Sets_bestCut_15 : decode prog_8_method_5_code 15 = .ok (.ifCond .le 32, 3) := by decide +kernel
theorem d_Sets_bestCut_18 : decode prog_8_method_5_code 18 = .ok (.lload_n 3, 1) := by decide +kernel
theorem d_Sets_bestCut_19 : decode prog_8_method_5_code 19 = .ok (.aload_n 0, 1) := by decide +kernel
theorem d_Sets_bestCut_20 : decode prog_8_method_5_code 20 = .ok (.iload 5, 2) := by decide +kernel
theorem d_Sets_bestCut_22 : decode prog_8_method_5_code 22 = .ok (.laload, 1) := by decide +kernel
theorem d_Sets_bestCut_23 : decode prog_8_method_5_code 23 = .ok (.aload_n 1, 1) := by decide +kernel
theorem d_Sets_bestCut_24 : decode prog_8_method_5_code 24 = .ok (.iload_n 2, 1) := by decide +kernel
theorem d_Sets_bestCut_25 : decode prog_8_method_5_code 25 = .ok (.iload 5, 2) := by decide +kernel
theorem d_Sets_bestCut_27 : decode prog_8_method_5_code 27 = .ok (.ixor, 1) := by decide +kernel
theorem d_Sets_bestCut_28 : decode prog_8_method_5_code 28 = .ok (.laload, 1) := by decide +kernel
theorem d_Sets_bestCut_29 : decode prog_8_method_5_code 29 = .ok (.invokestatic 37, 3) := by decide +kernel
theorem d_Sets_bestCut_32 : decode prog_8_method_5_code 32 = .ok (.invokestatic 41, 3) := by decide +kernel
theorem d_Sets_bestCut_35 : decode prog_8_method_5_code 35 = .ok (.lstore_n 3, 1) := by decide +kernel
theorem d_Sets_bestCut_36 : decode prog_8_method_5_code 36 = .ok (.iload 5, 2) := by decide +kernel
theorem d_Sets_bestCut_38 : decode prog_8_method_5_code 38 = .ok (.iconst 1, 1) := by decide +kernel
theorem d_Sets_bestCut_39 : decode prog_8_method_5_code 39 = .ok (.isub, 1) := by decide +kernel
theorem d_Sets_bestCut_40 : decode prog_8_method_5_code 40 = .ok (.iload_n 2, 1) := by decide +kernel
theorem d_Sets_bestCut_41 : decode prog_8_method_5_code 41 = .ok (.iand, 1) := by decide +kernel
theorem d_Sets_bestCut_42 : decode prog_8_method_5_code 42 = .ok (.istore 5, 2) := by decide +kernel
theorem d_Sets_bestCut_44 : decode prog_8_method_5_code 44 = .ok (.goto (-31), 3) := by decide +kernel
theorem d_Sets_bestCut_47 : decode prog_8_method_5_code 47 = .ok (.lload_n 3, 1) := by decide +kernel
theorem d_Sets_bestCut_48 : decode prog_8_method_5_code 48 = .ok (.lreturn, 1) := by decide +kernel
theorem d_Sets_isBare_0 : decode prog_8_method_6_code 0 = .ok (.iload_n 1, 1) := by decide +kernel
theorem d_Sets_isBare_1 : decode prog_8_method_6_code 1 = .ok (.iconst 1, 1) := by decide +kernel
theorem d_Sets_isBare_2 : decode prog_8_method_6_code 2 = .ok (.if_icmp .lt 11, 3) := by decide +kernel
theorem d_Sets_isBare_5 : decode prog_8_method_6_code 5 = .ok (.aload_n 0, 1) := by decide +kernel
theorem d_Sets_isBare_6 : decode prog_8_method_6_code 6 = .ok (.iconst 0, 1) := by decide +kernel
theorem d_Sets_isBare_7 : decode prog_8_method_6_code 7 = .ok (.laload, 1) := by decide +kernel
theorem d_Sets_isBare_8 : decode prog_8_method_6_code 8 = .ok (.lconst 0, 1) := by decide +kernel
theorem d_Sets_isBare_9 : decode prog_8_method_6_code 9 = .ok (.lcmp, 1) := by decide +kernel
theorem d_Sets_isBare_10 : decode prog_8_method_6_code 10 = .ok (.ifCond .eq 5, 3) := by decide +kernel
theorem d_Sets_isBare_13 : decode prog_8_method_6_code 13 = .ok (.iconst 0, 1) := by decide +kernel
theorem d_Sets_isBare_14 : decode prog_8_method_6_code 14 = .ok (.ireturn, 1) := by decide +kernel
theorem d_Sets_isBare_15 : decode prog_8_method_6_code 15 = .ok (.iconst 1, 1) := by decide +kernel
theorem d_Sets_isBare_16 : decode prog_8_method_6_code 16 = .ok (.istore_n 2, 1) := by decide +kernel
theorem d_Sets_isBare_17 : decode prog_8_method_6_code 17 = .ok (.iload_n 2, 1) := by decide +kernel
theorem d_Sets_isBare_18 : decode prog_8_method_6_code 18 = .ok (.iload_n 1, 1) := by decide +kernel
theorem d_Sets_isBare_19 : decode prog_8_method_6_code 19 = .ok (.if_icmp .ge 21, 3) := by decide +kernel
theorem d_Sets_isBare_22 : decode prog_8_method_6_code 22 = .ok (.aload_n 0, 1) := by decide +kernel
theorem d_Sets_isBare_23 : decode prog_8_method_6_code 23 = .ok (.iload_n 2, 1) := by decide +kernel
theorem d_Sets_isBare_24 : decode prog_8_method_6_code 24 = .ok (.laload, 1) := by decide +kernel
theorem d_Sets_isBare_25 : decode prog_8_method_6_code 25 = .ok (.ldc2_w 9, 3) := by decide +kernel
theorem d_Sets_isBare_28 : decode prog_8_method_6_code 28 = .ok (.lcmp, 1) := by decide +kernel
theorem d_Sets_isBare_29 : decode prog_8_method_6_code 29 = .ok (.ifCond .eq 5, 3) := by decide +kernel
theorem d_Sets_isBare_32 : decode prog_8_method_6_code 32 = .ok (.iconst 0, 1) := by decide +kernel
theorem d_Sets_isBare_33 : decode prog_8_method_6_code 33 = .ok (.ireturn, 1) := by decide +kernel
theorem d_Sets_isBare_34 : decode prog_8_method_6_code 34 = .ok (.iinc 2 1, 3) := by decide +kernel
theorem d_Sets_isBare_37 : decode prog_8_method_6_code 37 = .ok (.goto (-20), 3) := by decide +kernel
theorem d_Sets_isBare_40 : decode prog_8_method_6_code 40 = .ok (.iconst 1, 1) := by decide +kernel
theorem d_Sets_isBare_41 : decode prog_8_method_6_code 41 = .ok (.ireturn, 1) := by decide +kernel
theorem d_Spread_init_0 : decode prog_9_method_1_code 0 = .ok (.aload_n 0, 1) := by decide +kernel
theorem d_Spread_init_1 : decode prog_9_method_1_code 1 = .ok (.invokespecial 5, 3) := by decide +kernel
theorem d_Spread_init_4 : decode prog_9_method_1_code 4 = .ok (.aload_n 0, 1) := by decide +kernel
theorem d_Spread_init_5 : decode prog_9_method_1_code 5 = .ok (.aload_n 1, 1) := by decide +kernel
theorem d_Spread_init_6 : decode prog_9_method_1_code 6 = .ok (.putfield 11, 3) := by decide +kernel
theorem d_Spread_init_9 : decode prog_9_method_1_code 9 = .ok (.aload_n 0, 1) := by decide +kernel
theorem d_Spread_init_10 : decode prog_9_method_1_code 10 = .ok (.aload_n 2, 1) := by decide +kernel
theorem d_Spread_init_11 : decode prog_9_method_1_code 11 = .ok (.putfield 15, 3) := by decide +kernel
theorem d_Spread_init_14 : decode prog_9_method_1_code 14 = .ok (.aload_n 0, 1) := by decide +kernel
theorem d_Spread_init_15 : decode prog_9_method_1_code 15 = .ok (.new 19, 3) := by decide +kernel
theorem d_Spread_init_18 : decode prog_9_method_1_code 18 = .ok (.dup, 1) := by decide +kernel
theorem d_Spread_init_19 : decode prog_9_method_1_code 19 = .ok (.invokespecial 21, 3) := by decide +kernel
theorem d_Spread_init_22 : decode prog_9_method_1_code 22 = .ok (.putfield 22, 3) := by decide +kernel
theorem d_Spread_init_25 : decode prog_9_method_1_code 25 = .ok (.aload_n 0, 1) := by decide +kernel
theorem d_Spread_init_26 : decode prog_9_method_1_code 26 = .ok (.sipush 256, 3) := by decide +kernel
theorem d_Spread_init_29 : decode prog_9_method_1_code 29 = .ok (.newarray .long, 2) := by decide +kernel
theorem d_Spread_init_31 : decode prog_9_method_1_code 31 = .ok (.putfield 25, 3) := by decide +kernel
theorem d_Spread_init_34 : decode prog_9_method_1_code 34 = .ok (.aload_n 0, 1) := by decide +kernel
theorem d_Spread_init_35 : decode prog_9_method_1_code 35 = .ok (.sipush 256, 3) := by decide +kernel
theorem d_Spread_init_38 : decode prog_9_method_1_code 38 = .ok (.newarray .long, 2) := by decide +kernel
theorem d_Spread_init_40 : decode prog_9_method_1_code 40 = .ok (.putfield 29, 3) := by decide +kernel
theorem d_Spread_init_43 : decode prog_9_method_1_code 43 = .ok (.aload_n 0, 1) := by decide +kernel
theorem d_Spread_init_44 : decode prog_9_method_1_code 44 = .ok (.sipush 256, 3) := by decide +kernel
theorem d_Spread_init_47 : decode prog_9_method_1_code 47 = .ok (.newarray .long, 2) := by decide +kernel
theorem d_Spread_init_49 : decode prog_9_method_1_code 49 = .ok (.putfield 32, 3) := by decide +kernel
theorem d_Spread_init_52 : decode prog_9_method_1_code 52 = .ok (.aload_n 0, 1) := by decide +kernel
theorem d_Spread_init_53 : decode prog_9_method_1_code 53 = .ok (.sipush 256, 3) := by decide +kernel
theorem d_Spread_init_56 : decode prog_9_method_1_code 56 = .ok (.newarray .int, 2) := by decide +kernel
theorem d_Spread_init_58 : decode prog_9_method_1_code 58 = .ok (.putfield 35, 3) := by decide +kernel
theorem d_Spread_init_61 : decode prog_9_method_1_code 61 = .ok (.aload_n 0, 1) := by decide +kernel
theorem d_Spread_init_62 : decode prog_9_method_1_code 62 = .ok (.iconst 4, 1) := by decide +kernel
theorem d_Spread_init_63 : decode prog_9_method_1_code 63 = .ok (.newarray .int, 2) := by decide +kernel
theorem d_Spread_init_65 : decode prog_9_method_1_code 65 = .ok (.putfield 39, 3) := by decide +kernel
theorem d_Spread_init_68 : decode prog_9_method_1_code 68 = .ok (.aload_n 0, 1) := by decide +kernel
theorem d_Spread_init_69 : decode prog_9_method_1_code 69 = .ok (.iconst 4, 1) := by decide +kernel
theorem d_Spread_init_70 : decode prog_9_method_1_code 70 = .ok (.newarray .int, 2) := by decide +kernel
theorem d_Spread_init_72 : decode prog_9_method_1_code 72 = .ok (.putfield 42, 3) := by decide +kernel
theorem d_Spread_init_75 : decode prog_9_method_1_code 75 = .ok (.aload_n 0, 1) := by decide +kernel
theorem d_Spread_init_76 : decode prog_9_method_1_code 76 = .ok (.bipush 16, 2) := by decide +kernel
theorem d_Spread_init_78 : decode prog_9_method_1_code 78 = .ok (.newarray .int, 2) := by decide +kernel
theorem d_Spread_init_80 : decode prog_9_method_1_code 80 = .ok (.putfield 45, 3) := by decide +kernel
theorem d_Spread_init_83 : decode prog_9_method_1_code 83 = .ok (.aload_n 0, 1) := by decide +kernel
theorem d_Spread_init_84 : decode prog_9_method_1_code 84 = .ok (.iconst 5, 1) := by decide +kernel
theorem d_Spread_init_85 : decode prog_9_method_1_code 85 = .ok (.newarray .int, 2) := by decide +kernel
theorem d_Spread_init_87 : decode prog_9_method_1_code 87 = .ok (.putfield 48, 3) := by decide +kernel
theorem d_Spread_init_90 : decode prog_9_method_1_code 90 = .ok (.return_, 1) := by decide +kernel
theorem d_Spread_find_0 : decode prog_9_method_2_code 0 = .ok (.aload_n 0, 1) := by decide +kernel
theorem d_Spread_find_1 : decode prog_9_method_2_code 1 = .ok (.invokevirtual 51, 3) := by decide +kernel
theorem d_Spread_find_4 : decode prog_9_method_2_code 4 = .ok (.aload_n 0, 1) := by decide +kernel
theorem d_Spread_find_5 : decode prog_9_method_2_code 5 = .ok (.getfield 22, 3) := by decide +kernel
theorem d_Spread_find_8 : decode prog_9_method_2_code 8 = .ok (.invokevirtual 54, 3) := by decide +kernel
theorem d_Spread_find_11 : decode prog_9_method_2_code 11 = .ok (.bipush 8, 2) := by decide +kernel
theorem d_Spread_find_13 : decode prog_9_method_2_code 13 = .ok (.if_icmp .le 6, 3) := by decide +kernel
theorem d_Spread_find_16 : decode prog_9_method_2_code 16 = .ok (.bipush (-7), 2) := by decide +kernel
theorem d_Spread_find_18 : decode prog_9_method_2_code 18 = .ok (.ireturn, 1) := by decide +kernel
theorem d_Spread_find_19 : decode prog_9_method_2_code 19 = .ok (.aload_n 0, 1) := by decide +kernel
theorem d_Spread_find_20 : decode prog_9_method_2_code 20 = .ok (.invokevirtual 58, 3) := by decide +kernel
theorem d_Spread_find_23 : decode prog_9_method_2_code 23 = .ok (.aload_n 0, 1) := by decide +kernel
theorem d_Spread_find_24 : decode prog_9_method_2_code 24 = .ok (.getfield 25, 3) := by decide +kernel
theorem d_Spread_find_27 : decode prog_9_method_2_code 27 = .ok (.invokestatic 61, 3) := by decide +kernel
theorem d_Spread_find_30 : decode prog_9_method_2_code 30 = .ok (.iconst 0, 1) := by decide +kernel
theorem d_Spread_find_31 : decode prog_9_method_2_code 31 = .ok (.istore_n 1, 1) := by decide +kernel
theorem d_Spread_find_32 : decode prog_9_method_2_code 32 = .ok (.iload_n 1, 1) := by decide +kernel
theorem d_Spread_find_33 : decode prog_9_method_2_code 33 = .ok (.iconst 4, 1) := by decide +kernel
theorem d_Spread_find_34 : decode prog_9_method_2_code 34 = .ok (.if_icmp .ge 29, 3) := by decide +kernel
theorem d_Spread_find_37 : decode prog_9_method_2_code 37 = .ok (.aload_n 0, 1) := by decide +kernel
theorem d_Spread_find_38 : decode prog_9_method_2_code 38 = .ok (.iload_n 1, 1) := by decide +kernel
theorem d_Spread_find_39 : decode prog_9_method_2_code 39 = .ok (.invokevirtual 67, 3) := by decide +kernel
theorem d_Spread_find_42 : decode prog_9_method_2_code 42 = .ok (.aload_n 0, 1) := by decide +kernel
theorem d_Spread_find_43 : decode prog_9_method_2_code 43 = .ok (.getfield 25, 3) := by decide +kernel
theorem d_Spread_find_46 : decode prog_9_method_2_code 46 = .ok (.aload_n 0, 1) := by decide +kernel
theorem d_Spread_find_47 : decode prog_9_method_2_code 47 = .ok (.getfield 29, 3) := by decide +kernel
theorem d_Spread_find_50 : decode prog_9_method_2_code 50 = .ok (.aload_n 0, 1) := by decide +kernel
theorem d_Spread_find_51 : decode prog_9_method_2_code 51 = .ok (.invokevirtual 71, 3) := by decide +kernel
theorem d_Spread_find_54 : decode prog_9_method_2_code 54 = .ok (.invokestatic 74, 3) := by decide +kernel
theorem d_Spread_find_57 : decode prog_9_method_2_code 57 = .ok (.iinc 1 1, 3) := by decide +kernel
theorem d_Spread_find_60 : decode prog_9_method_2_code 60 = .ok (.goto (-28), 3) := by decide +kernel
theorem d_Spread_find_63 : decode prog_9_method_2_code 63 = .ok (.aload_n 0, 1) := by decide +kernel
theorem d_Spread_find_64 : decode prog_9_method_2_code 64 = .ok (.invokevirtual 78, 3) := by decide +kernel
theorem d_Spread_find_67 : decode prog_9_method_2_code 67 = .ok (.lstore_n 1, 1) := by decide +kernel
theorem d_Spread_find_68 : decode prog_9_method_2_code 68 = .ok (.lload_n 1, 1) := by decide +kernel
theorem d_Spread_find_69 : decode prog_9_method_2_code 69 = .ok (.ldc2_w 82, 3) := by decide +kernel
theorem d_Spread_find_72 : decode prog_9_method_2_code 72 = .ok (.lcmp, 1) := by decide +kernel
theorem d_Spread_find_73 : decode prog_9_method_2_code 73 = .ok (.ifCond .ne 8, 3) := by decide +kernel
theorem d_Spread_find_76 : decode prog_9_method_2_code 76 = .ok (.bipush (-6), 2) := by decide +kernel
theorem d_Spread_find_78 : decode prog_9_method_2_code 78 = .ok (.goto 9, 3) := by decide +kernel
theorem d_Spread_find_81 : decode prog_9_method_2_code 81 = .ok (.lload_n 1, 1) := by decide +kernel
theorem d_Spread_find_82 : decode prog_9_method_2_code 82 = .ok (.lneg, 1) := by decide +kernel
theorem d_Spread_find_83 : decode prog_9_method_2_code 83 = .ok (.bipush 48, 2) := by decide +kernel
theorem d_Spread_find_85 : decode prog_9_method_2_code 85 = .ok (.lshr, 1) := by decide +kernel
theorem d_Spread_find_86 : decode prog_9_method_2_code 86 = .ok (.l2i, 1) := by decide +kernel
theorem d_Spread_find_87 : decode prog_9_method_2_code 87 = .ok (.ireturn, 1) := by decide +kernel
theorem d_Spread_sets_0 : decode prog_9_method_3_code 0 = .ok (.iconst 1, 1) := by decide +kernel
theorem d_Spread_sets_1 : decode prog_9_method_3_code 1 = .ok (.aload_n 0, 1) := by decide +kernel
theorem d_Spread_sets_2 : decode prog_9_method_3_code 2 = .ok (.getfield 22, 3) := by decide +kernel
theorem d_Spread_sets_5 : decode prog_9_method_3_code 5 = .ok (.invokevirtual 54, 3) := by decide +kernel
theorem d_Spread_sets_8 : decode prog_9_method_3_code 8 = .ok (.bipush 8, 2) := by decide +kernel
theorem d_Spread_sets_10 : decode prog_9_method_3_code 10 = .ok (.invokestatic 84, 3) := by decide +kernel
theorem d_Spread_sets_13 : decode prog_9_method_3_code 13 = .ok (.ishl, 1) := by decide +kernel
theorem d_Spread_sets_14 : decode prog_9_method_3_code 14 = .ok (.ireturn, 1) := by decide +kernel
theorem d_Spread_scoreFound_0 : decode prog_9_method_4_code 0 = .ok (.aload_n 0, 1) := by decide +kernel
theorem d_Spread_scoreFound_1 : decode prog_9_method_4_code 1 = .ok (.invokevirtual 71, 3) := by decide +kernel
theorem d_Spread_scoreFound_4 : decode prog_9_method_4_code 4 = .ok (.iconst 1, 1) := by decide +kernel
theorem d_Spread_scoreFound_5 : decode prog_9_method_4_code 5 = .ok (.sipush 256, 3) := by decide +kernel
theorem d_Spread_scoreFound_8 : decode prog_9_method_4_code 8 = .ok (.invokestatic 90, 3) := by decide +kernel
theorem d_Spread_scoreFound_11 : decode prog_9_method_4_code 11 = .ok (.ifCond .eq 17, 3) := by decide +kernel
theorem d_Spread_scoreFound_14 : decode prog_9_method_4_code 14 = .ok (.aload_n 0, 1) := by decide +kernel
theorem d_Spread_scoreFound_15 : decode prog_9_method_4_code 15 = .ok (.getfield 25, 3) := by decide +kernel
theorem d_Spread_scoreFound_18 : decode prog_9_method_4_code 18 = .ok (.aload_n 0, 1) := by decide +kernel
theorem d_Spread_scoreFound_19 : decode prog_9_method_4_code 19 = .ok (.invokevirtual 71, 3) := by decide +kernel
theorem d_Spread_scoreFound_22 : decode prog_9_method_4_code 22 = .ok (.iconst 1, 1) := by decide +kernel
theorem d_Spread_scoreFound_23 : decode prog_9_method_4_code 23 = .ok (.isub, 1) := by decide +kernel
theorem d_Spread_scoreFound_24 : decode prog_9_method_4_code 24 = .ok (.laload, 1) := by decide +kernel
theorem d_Spread_scoreFound_25 : decode prog_9_method_4_code 25 = .ok (.goto 6, 3) := by decide +kernel
theorem d_Spread_scoreFound_28 : decode prog_9_method_4_code 28 = .ok (.ldc2_w 82, 3) := by decide +kernel
theorem d_Spread_scoreFound_31 : decode prog_9_method_4_code 31 = .ok (.lreturn, 1) := by decide +kernel
theorem d_Spread_gather_0 : decode prog_9_method_5_code 0 = .ok (.aload_n 0, 1) := by decide +kernel
theorem d_Spread_gather_1 : decode prog_9_method_5_code 1 = .ok (.getfield 22, 3) := by decide +kernel
theorem d_Spread_gather_4 : decode prog_9_method_5_code 4 = .ok (.invokevirtual 94, 3) := by decide +kernel
theorem d_Spread_gather_7 : decode prog_9_method_5_code 7 = .ok (.aload_n 0, 1) := by decide +kernel
theorem d_Spread_gather_8 : decode prog_9_method_5_code 8 = .ok (.getfield 42, 3) := by decide +kernel
theorem d_Spread_gather_11 : decode prog_9_method_5_code 11 = .ok (.iconst 0, 1) := by decide +kernel
theorem d_Spread_gather_12 : decode prog_9_method_5_code 12 = .ok (.invokestatic 96, 3) := by decide +kernel
theorem d_Spread_gather_15 : decode prog_9_method_5_code 15 = .ok (.aload_n 0, 1) := by decide +kernel
theorem d_Spread_gather_16 : decode prog_9_method_5_code 16 = .ok (.getfield 45, 3) := by decide +kernel
theorem d_Spread_gather_19 : decode prog_9_method_5_code 19 = .ok (.iconst 0, 1) := by decide +kernel
theorem d_Spread_gather_20 : decode prog_9_method_5_code 20 = .ok (.invokestatic 96, 3) := by decide +kernel
theorem d_Spread_gather_23 : decode prog_9_method_5_code 23 = .ok (.aload_n 0, 1) := by decide +kernel
theorem d_Spread_gather_24 : decode prog_9_method_5_code 24 = .ok (.getfield 48, 3) := by decide +kernel
theorem d_Spread_gather_27 : decode prog_9_method_5_code 27 = .ok (.iconst 0, 1) := by decide +kernel
theorem d_Spread_gather_28 : decode prog_9_method_5_code 28 = .ok (.invokestatic 96, 3) := by decide +kernel
theorem d_Spread_gather_31 : decode prog_9_method_5_code 31 = .ok (.iconst 0, 1) := by decide +kernel
theorem d_Spread_gather_32 : decode prog_9_method_5_code 32 = .ok (.istore_n 1, 1) := by decide +kernel
theorem d_Spread_gather_33 : decode prog_9_method_5_code 33 = .ok (.iload_n 1, 1) := by decide +kernel
theorem d_Spread_gather_34 : decode prog_9_method_5_code 34 = .ok (.aload_n 0, 1) := by decide +kernel
theorem d_Spread_gather_35 : decode prog_9_method_5_code 35 = .ok (.getfield 11, 3) := by decide +kernel
theorem d_Spread_gather_38 : decode prog_9_method_5_code 38 = .ok (.invokevirtual 54, 3) := by decide +kernel
theorem d_Spread_gather_41 : decode prog_9_method_5_code 41 = .ok (.if_icmp .ge 69, 3) := by decide +kernel
theorem d_Spread_gather_44 : decode prog_9_method_5_code 44 = .ok (.aload_n 0, 1) := by decide +kernel
theorem d_Spread_gather_45 : decode prog_9_method_5_code 45 = .ok (.getfield 11, 3) := by decide +kernel
theorem d_Spread_gather_48 : decode prog_9_method_5_code 48 = .ok (.iload_n 1, 1) := by decide +kernel
theorem d_Spread_gather_49 : decode prog_9_method_5_code 49 = .ok (.invokevirtual 102, 3) := by decide +kernel
theorem d_Spread_gather_52 : decode prog_9_method_5_code 52 = .ok (.checkcast 106, 3) := by decide +kernel
theorem d_Spread_gather_55 : decode prog_9_method_5_code 55 = .ok (.astore_n 2, 1) := by decide +kernel
theorem d_Spread_gather_56 : decode prog_9_method_5_code 56 = .ok (.aload_n 2, 1) := by decide +kernel
theorem d_Spread_gather_57 : decode prog_9_method_5_code 57 = .ok (.invokevirtual 108, 3) := by decide +kernel
theorem d_Spread_gather_60 : decode prog_9_method_5_code 60 = .ok (.ifCond .eq 44, 3) := by decide +kernel
theorem d_Spread_gather_63 : decode prog_9_method_5_code 63 = .ok (.aload_n 2, 1) := by decide +kernel
theorem d_Spread_gather_64 : decode prog_9_method_5_code 64 = .ok (.invokevirtual 112, 3) := by decide +kernel
theorem d_Spread_gather_67 : decode prog_9_method_5_code 67 = .ok (.iconst 0, 1) := by decide +kernel
theorem d_Spread_gather_68 : decode prog_9_method_5_code 68 = .ok (.iconst 3, 1) := by decide +kernel
theorem d_Spread_gather_69 : decode prog_9_method_5_code 69 = .ok (.invokestatic 90, 3) := by decide +kernel
theorem d_Spread_gather_72 : decode prog_9_method_5_code 72 = .ok (.ifCond .eq 32, 3) := by decide +kernel
theorem d_Spread_gather_75 : decode prog_9_method_5_code 75 = .ok (.aload_n 0, 1) := by decide +kernel
theorem d_Spread_gather_76 : decode prog_9_method_5_code 76 = .ok (.getfield 42, 3) := by decide +kernel
theorem d_Spread_gather_79 : decode prog_9_method_5_code 79 = .ok (.aload_n 2, 1) := by decide +kernel
theorem d_Spread_gather_80 : decode prog_9_method_5_code 80 = .ok (.invokevirtual 112, 3) := by decide +kernel
theorem d_Spread_gather_83 : decode prog_9_method_5_code 83 = .ok (.dup2, 1) := by decide +kernel
theorem d_Spread_gather_84 : decode prog_9_method_5_code 84 = .ok (.iaload, 1) := by decide +kernel
theorem d_Spread_gather_85 : decode prog_9_method_5_code 85 = .ok (.iconst 1, 1) := by decide +kernel
theorem d_Spread_gather_86 : decode prog_9_method_5_code 86 = .ok (.iadd, 1) := by decide +kernel
theorem d_Spread_gather_87 : decode prog_9_method_5_code 87 = .ok (.iastore, 1) := by decide +kernel
theorem d_Spread_gather_88 : decode prog_9_method_5_code 88 = .ok (.aload_n 0, 1) := by decide +kernel
theorem d_Spread_gather_89 : decode prog_9_method_5_code 89 = .ok (.aload_n 2, 1) := by decide +kernel
theorem d_Spread_gather_90 : decode prog_9_method_5_code 90 = .ok (.aload_n 0, 1) := by decide +kernel
theorem d_Spread_gather_91 : decode prog_9_method_5_code 91 = .ok (.getfield 15, 3) := by decide +kernel
theorem d_Spread_gather_94 : decode prog_9_method_5_code 94 = .ok (.aload_n 2, 1) := by decide +kernel
theorem d_Spread_gather_95 : decode prog_9_method_5_code 95 = .ok (.invokevirtual 115, 3) := by decide +kernel
theorem d_Spread_gather_98 : decode prog_9_method_5_code 98 = .ok (.invokevirtual 118, 3) := by decide +kernel
theorem d_Spread_gather_101 : decode prog_9_method_5_code 101 = .ok (.invokevirtual 124, 3) := by decide +kernel
theorem d_Spread_gather_104 : decode prog_9_method_5_code 104 = .ok (.iinc 1 1, 3) := by decide +kernel
theorem d_Spread_gather_107 : decode prog_9_method_5_code 107 = .ok (.goto (-74), 3) := by decide +kernel
theorem d_Spread_gather_110 : decode prog_9_method_5_code 110 = .ok (.return_, 1) := by decide +kernel
theorem d_Spread_moveOrStay_0 : decode prog_9_method_6_code 0 = .ok (.aload_n 2, 1) := by decide +kernel
theorem d_Spread_moveOrStay_1 : decode prog_9_method_6_code 1 = .ok (.ifnull 15, 3) := by decide +kernel
theorem d_Spread_moveOrStay_4 : decode prog_9_method_6_code 4 = .ok (.aload_n 0, 1) := by decide +kernel
theorem d_Spread_moveOrStay_5 : decode prog_9_method_6_code 5 = .ok (.getfield 15, 3) := by decide +kernel
theorem d_Spread_moveOrStay_8 : decode prog_9_method_6_code 8 = .ok (.aload_n 2, 1) := by decide +kernel
theorem d_Spread_moveOrStay_9 : decode prog_9_method_6_code 9 = .ok (.aload_n 1, 1) := by decide +kernel
theorem d_Spread_moveOrStay_10 : decode prog_9_method_6_code 10 = .ok (.invokevirtual 128, 3) := by decide +kernel
theorem d_Spread_moveOrStay_13 : decode prog_9_method_6_code 13 = .ok (.ifCond .ne 13, 3) := by decide +kernel
theorem d_Spread_moveOrStay_16 : decode prog_9_method_6_code 16 = .ok (.aload_n 0, 1) := by decide +kernel
theorem d_Spread_moveOrStay_17 : decode prog_9_method_6_code 17 = .ok (.getfield 22, 3) := by decide +kernel
theorem d_Spread_moveOrStay_20 : decode prog_9_method_6_code 20 = .ok (.aload_n 1, 1) := by decide +kernel
theorem d_Spread_moveOrStay_21 : decode prog_9_method_6_code 21 = .ok (.invokevirtual 132, 3) := by decide +kernel
theorem d_Spread_moveOrStay_24 : decode prog_9_method_6_code 24 = .ok (.pop, 1) := by decide +kernel
theorem d_Spread_moveOrStay_25 : decode prog_9_method_6_code 25 = .ok (.return_, 1) := by decide +kernel
theorem d_Spread_moveOrStay_26 : decode prog_9_method_6_code 26 = .ok (.aload_n 2, 1) := by decide +kernel
theorem d_Spread_moveOrStay_27 : decode prog_9_method_6_code 27 = .ok (.invokevirtual 136, 3) := by decide +kernel
theorem d_Spread_moveOrStay_30 : decode prog_9_method_6_code 30 = .ok (.iconst 4, 1) := by decide +kernel
theorem d_Spread_moveOrStay_31 : decode prog_9_method_6_code 31 = .ok (.imul, 1) := by decide +kernel
theorem d_Spread_moveOrStay_32 : decode prog_9_method_6_code 32 = .ok (.aload_n 1, 1) := by decide +kernel
theorem d_Spread_moveOrStay_33 : decode prog_9_method_6_code 33 = .ok (.invokevirtual 112, 3) := by decide +kernel
theorem d_Spread_moveOrStay_36 : decode prog_9_method_6_code 36 = .ok (.iadd, 1) := by decide +kernel
theorem d_Spread_moveOrStay_37 : decode prog_9_method_6_code 37 = .ok (.istore_n 3, 1) := by decide +kernel
theorem d_Spread_moveOrStay_38 : decode prog_9_method_6_code 38 = .ok (.iload_n 3, 1) := by decide +kernel
theorem d_Spread_moveOrStay_39 : decode prog_9_method_6_code 39 = .ok (.iconst 0, 1) := by decide +kernel
theorem d_Spread_moveOrStay_40 : decode prog_9_method_6_code 40 = .ok (.aload_n 0, 1) := by decide +kernel
theorem d_Spread_moveOrStay_41 : decode prog_9_method_6_code 41 = .ok (.getfield 45, 3) := by decide +kernel
theorem d_Spread_moveOrStay_44 : decode prog_9_method_6_code 44 = .ok (.arraylength, 1) := by decide +kernel
theorem d_Spread_moveOrStay_45 : decode prog_9_method_6_code 45 = .ok (.iconst 1, 1) := by decide +kernel
theorem d_Spread_moveOrStay_46 : decode prog_9_method_6_code 46 = .ok (.isub, 1) := by decide +kernel
theorem d_Spread_moveOrStay_47 : decode prog_9_method_6_code 47 = .ok (.invokestatic 90, 3) := by decide +kernel
theorem d_Spread_moveOrStay_50 : decode prog_9_method_6_code 50 = .ok (.ifCond .eq 13, 3) := by decide +kernel
theorem d_Spread_moveOrStay_53 : decode prog_9_method_6_code 53 = .ok (.aload_n 0, 1) := by decide +kernel
theorem d_Spread_moveOrStay_54 : decode prog_9_method_6_code 54 = .ok (.getfield 45, 3) := by decide +kernel
theorem d_Spread_moveOrStay_57 : decode prog_9_method_6_code 57 = .ok (.iload_n 3, 1) := by decide +kernel
theorem d_Spread_moveOrStay_58 : decode prog_9_method_6_code 58 = .ok (.dup2, 1) := by decide +kernel
theorem d_Spread_moveOrStay_59 : decode prog_9_method_6_code 59 = .ok (.iaload, 1) := by decide +kernel
theorem d_Spread_moveOrStay_60 : decode prog_9_method_6_code 60 = .ok (.iconst 1, 1) := by decide +kernel
theorem d_Spread_moveOrStay_61 : decode prog_9_method_6_code 61 = .ok (.iadd, 1) := by decide +kernel
theorem d_Spread_moveOrStay_62 : decode prog_9_method_6_code 62 = .ok (.iastore, 1) := by decide +kernel
theorem d_Spread_moveOrStay_63 : decode prog_9_method_6_code 63 = .ok (.aload_n 1, 1) := by decide +kernel
theorem d_Spread_moveOrStay_64 : decode prog_9_method_6_code 64 = .ok (.invokevirtual 115, 3) := by decide +kernel
theorem d_Spread_moveOrStay_67 : decode prog_9_method_6_code 67 = .ok (.iconst 0, 1) := by decide +kernel
theorem d_Spread_moveOrStay_68 : decode prog_9_method_6_code 68 = .ok (.iconst 4, 1) := by decide +kernel
theorem d_Spread_moveOrStay_69 : decode prog_9_method_6_code 69 = .ok (.invokestatic 90, 3) := by decide +kernel
theorem d_Spread_moveOrStay_72 : decode prog_9_method_6_code 72 = .ok (.ifCond .eq 19, 3) := by decide +kernel
theorem d_Spread_moveOrStay_75 : decode prog_9_method_6_code 75 = .ok (.aload_n 0, 1) := by decide +kernel
theorem d_Spread_moveOrStay_76 : decode prog_9_method_6_code 76 = .ok (.getfield 48, 3) := by decide +kernel
theorem d_Spread_moveOrStay_79 : decode prog_9_method_6_code 79 = .ok (.aload_n 1, 1) := by decide +kernel
theorem d_Spread_moveOrStay_80 : decode prog_9_method_6_code 80 = .ok (.invokevirtual 115, 3) := by decide +kernel
theorem d_Spread_moveOrStay_83 : decode prog_9_method_6_code 83 = .ok (.dup2, 1) := by decide +kernel
theorem d_Spread_moveOrStay_84 : decode prog_9_method_6_code 84 = .ok (.iaload, 1) := by decide +kernel
theorem d_Spread_moveOrStay_85 : decode prog_9_method_6_code 85 = .ok (.aload_n 1, 1) := by decide +kernel
theorem d_Spread_moveOrStay_86 : decode prog_9_method_6_code 86 = .ok (.invokevirtual 141, 3) := by decide +kernel
theorem d_Spread_moveOrStay_89 : decode prog_9_method_6_code 89 = .ok (.iadd, 1) := by decide +kernel
theorem d_Spread_moveOrStay_90 : decode prog_9_method_6_code 90 = .ok (.iastore, 1) := by decide +kernel
theorem d_Spread_moveOrStay_91 : decode prog_9_method_6_code 91 = .ok (.return_, 1) := by decide +kernel
theorem d_Spread_noteMovers_0 : decode prog_9_method_7_code 0 = .ok (.aload_n 0, 1) := by decide +kernel
theorem d_Spread_noteMovers_1 : decode prog_9_method_7_code 1 = .ok (.getfield 39, 3) := by decide +kernel
theorem d_Spread_noteMovers_4 : decode prog_9_method_7_code 4 = .ok (.iconst 0, 1) := by decide +kernel
theorem d_Spread_noteMovers_5 : decode prog_9_method_7_code 5 = .ok (.invokestatic 96, 3) := by decide +kernel
theorem d_Spread_noteMovers_8 : decode prog_9_method_7_code 8 = .ok (.aload_n 0, 1) := by decide +kernel
theorem d_Spread_noteMovers_9 : decode prog_9_method_7_code 9 = .ok (.getfield 35, 3) := by decide +kernel
theorem d_Spread_noteMovers_12 : decode prog_9_method_7_code 12 = .ok (.iconst 0, 1) := by decide +kernel
theorem d_Spread_noteMovers_13 : decode prog_9_method_7_code 13 = .ok (.iconst 0, 1) := by decide +kernel
theorem d_Spread_noteMovers_14 : decode prog_9_method_7_code 14 = .ok (.iastore, 1) := by decide +kernel
theorem d_Spread_noteMovers_15 : decode prog_9_method_7_code 15 = .ok (.iconst 0, 1) := by decide +kernel
theorem d_Spread_noteMovers_16 : decode prog_9_method_7_code 16 = .ok (.istore_n 1, 1) := by decide +kernel
theorem d_Spread_noteMovers_17 : decode prog_9_method_7_code 17 = .ok (.iload_n 1, 1) := by decide +kernel
theorem d_Spread_noteMovers_18 : decode prog_9_method_7_code 18 = .ok (.aload_n 0, 1) := by decide +kernel
theorem d_Spread_noteMovers_19 : decode prog_9_method_7_code 19 = .ok (.getfield 22, 3) := by decide +kernel
theorem d_Spread_noteMovers_22 : decode prog_9_method_7_code 22 = .ok (.invokevirtual 54, 3) := by decide +kernel
theorem d_Spread_noteMovers_25 : decode prog_9_method_7_code 25 = .ok (.if_icmp .ge 102, 3) := by decide +kernel
theorem d_Spread_noteMovers_28 : decode prog_9_method_7_code 28 = .ok (.iload_n 1, 1) := by decide +kernel
theorem d_Spread_noteMovers_29 : decode prog_9_method_7_code 29 = .ok (.bipush 8, 2) := by decide +kernel
theorem d_Spread_noteMovers_31 : decode prog_9_method_7_code 31 = .ok (.if_icmp .ge 96, 3) := by decide +kernel
theorem d_Spread_noteMovers_34 : decode prog_9_method_7_code 34 = .ok (.aload_n 0, 1) := by decide +kernel
theorem d_Spread_noteMovers_35 : decode prog_9_method_7_code 35 = .ok (.getfield 22, 3) := by decide +kernel
theorem d_Spread_noteMovers_38 : decode prog_9_method_7_code 38 = .ok (.iload_n 1, 1) := by decide +kernel
theorem d_Spread_noteMovers_39 : decode prog_9_method_7_code 39 = .ok (.invokevirtual 102, 3) := by decide +kernel
theorem d_Spread_noteMovers_42 : decode prog_9_method_7_code 42 = .ok (.checkcast 106, 3) := by decide +kernel
theorem d_Spread_noteMovers_45 : decode prog_9_method_7_code 45 = .ok (.astore_n 2, 1) := by decide +kernel
theorem d_Spread_noteMovers_46 : decode prog_9_method_7_code 46 = .ok (.iconst 1, 1) := by decide +kernel
theorem d_Spread_noteMovers_47 : decode prog_9_method_7_code 47 = .ok (.iload_n 1, 1) := by decide +kernel
theorem d_Spread_noteMovers_48 : decode prog_9_method_7_code 48 = .ok (.ishl, 1) := by decide +kernel
theorem d_Spread_noteMovers_49 : decode prog_9_method_7_code 49 = .ok (.istore_n 3, 1) := by decide +kernel
theorem d_Spread_noteMovers_50 : decode prog_9_method_7_code 50 = .ok (.aload_n 2, 1) := by decide +kernel
theorem d_Spread_noteMovers_51 : decode prog_9_method_7_code 51 = .ok (.invokevirtual 112, 3) := by decide +kernel
theorem d_Spread_noteMovers_54 : decode prog_9_method_7_code 54 = .ok (.iconst 0, 1) := by decide +kernel
theorem d_Spread_noteMovers_55 : decode prog_9_method_7_code 55 = .ok (.iconst 3, 1) := by decide +kernel
theorem d_Spread_noteMovers_56 : decode prog_9_method_7_code 56 = .ok (.invokestatic 90, 3) := by decide +kernel
theorem d_Spread_noteMovers_59 : decode prog_9_method_7_code 59 = .ok (.ifCond .eq 16, 3) := by decide +kernel
theorem d_Spread_noteMovers_62 : decode prog_9_method_7_code 62 = .ok (.aload_n 0, 1) := by decide +kernel
theorem d_Spread_noteMovers_63 : decode prog_9_method_7_code 63 = .ok (.getfield 39, 3) := by decide +kernel
theorem d_Spread_noteMovers_66 : decode prog_9_method_7_code 66 = .ok (.aload_n 2, 1) := by decide +kernel
theorem d_Spread_noteMovers_67 : decode prog_9_method_7_code 67 = .ok (.invokevirtual 112, 3) := by decide +kernel
theorem d_Spread_noteMovers_70 : decode prog_9_method_7_code 70 = .ok (.dup2, 1) := by decide +kernel
theorem d_Spread_noteMovers_71 : decode prog_9_method_7_code 71 = .ok (.iaload, 1) := by decide +kernel
theorem d_Spread_noteMovers_72 : decode prog_9_method_7_code 72 = .ok (.iload_n 3, 1) := by decide +kernel
theorem d_Spread_noteMovers_73 : decode prog_9_method_7_code 73 = .ok (.ior, 1) := by decide +kernel
theorem d_Spread_noteMovers_74 : decode prog_9_method_7_code 74 = .ok (.iastore, 1) := by decide +kernel
theorem d_Spread_noteMovers_75 : decode prog_9_method_7_code 75 = .ok (.iconst 0, 1) := by decide +kernel
theorem d_Spread_noteMovers_76 : decode prog_9_method_7_code 76 = .ok (.istore 4, 2) := by decide +kernel
theorem d_Spread_noteMovers_78 : decode prog_9_method_7_code 78 = .ok (.iload 4, 2) := by decide +kernel
theorem d_Spread_noteMovers_80 : decode prog_9_method_7_code 80 = .ok (.iload_n 3, 1) := by decide +kernel
theorem d_Spread_noteMovers_81 : decode prog_9_method_7_code 81 = .ok (.if_icmp .ge 40, 3) := by decide +kernel
theorem d_Spread_noteMovers_84 : decode prog_9_method_7_code 84 = .ok (.iload 4, 2) := by decide +kernel
theorem d_Spread_noteMovers_86 : decode prog_9_method_7_code 86 = .ok (.iload_n 3, 1) := by decide +kernel
theorem d_Spread_noteMovers_87 : decode prog_9_method_7_code 87 = .ok (.iadd, 1) := by decide +kernel
theorem d_Spread_noteMovers_88 : decode prog_9_method_7_code 88 = .ok (.sipush 256, 3) := by decide +kernel
theorem d_Spread_noteMovers_91 : decode prog_9_method_7_code 91 = .ok (.if_icmp .ge 30, 3) := by decide +kernel
theorem d_Spread_noteMovers_94 : decode prog_9_method_7_code 94 = .ok (.aload_n 0, 1) := by decide +kernel
theorem d_Spread_noteMovers_95 : decode prog_9_method_7_code 95 = .ok (.getfield 35, 3) := by decide +kernel
theorem d_Spread_noteMovers_98 : decode prog_9_method_7_code 98 = .ok (.iload 4, 2) := by decide +kernel
theorem d_Spread_noteMovers_100 : decode prog_9_method_7_code 100 = .ok (.iload_n 3, 1) := by decide +kernel
theorem d_Spread_noteMovers_101 : decode prog_9_method_7_code 101 = .ok (.iadd, 1) := by decide +kernel
theorem d_Spread_noteMovers_102 : decode prog_9_method_7_code 102 = .ok (.aload_n 0, 1) := by decide +kernel
theorem d_Spread_noteMovers_103 : decode prog_9_method_7_code 103 = .ok (.getfield 35, 3) := by decide +kernel
theorem d_Spread_noteMovers_106 : decode prog_9_method_7_code 106 = .ok (.iload 4, 2) := by decide +kernel
theorem d_Spread_noteMovers_108 : decode prog_9_method_7_code 108 = .ok (.iaload, 1) := by decide +kernel
theorem d_Spread_noteMovers_109 : decode prog_9_method_7_code 109 = .ok (.aload_n 2, 1) := by decide +kernel
theorem d_Spread_noteMovers_110 : decode prog_9_method_7_code 110 = .ok (.invokevirtual 141, 3) := by decide +kernel
theorem d_Spread_noteMovers_113 : decode prog_9_method_7_code 113 = .ok (.iadd, 1) := by decide +kernel
theorem d_Spread_noteMovers_114 : decode prog_9_method_7_code 114 = .ok (.iastore, 1) := by decide +kernel
theorem d_Spread_noteMovers_115 : decode prog_9_method_7_code 115 = .ok (.iinc 4 1, 3) := by decide +kernel
theorem d_Spread_noteMovers_118 : decode prog_9_method_7_code 118 = .ok (.goto (-40), 3) := by decide +kernel
theorem d_Spread_noteMovers_121 : decode prog_9_method_7_code 121 = .ok (.iinc 1 1, 3) := by decide +kernel
theorem d_Spread_noteMovers_124 : decode prog_9_method_7_code 124 = .ok (.goto (-107), 3) := by decide +kernel
theorem d_Spread_noteMovers_127 : decode prog_9_method_7_code 127 = .ok (.return_, 1) := by decide +kernel
theorem d_Spread_scoreGroup_0 : decode prog_9_method_8_code 0 = .ok (.aload_n 0, 1) := by decide +kernel
theorem d_Spread_scoreGroup_1 : decode prog_9_method_8_code 1 = .ok (.getfield 29, 3) := by decide +kernel
theorem d_Spread_scoreGroup_4 : decode prog_9_method_8_code 4 = .ok (.invokestatic 61, 3) := by decide +kernel
theorem d_Spread_scoreGroup_7 : decode prog_9_method_8_code 7 = .ok (.iconst 0, 1) := by decide +kernel
theorem d_Spread_scoreGroup_8 : decode prog_9_method_8_code 8 = .ok (.istore_n 2, 1) := by decide +kernel
theorem d_Spread_scoreGroup_9 : decode prog_9_method_8_code 9 = .ok (.iload_n 2, 1) := by decide +kernel
theorem d_Spread_scoreGroup_10 : decode prog_9_method_8_code 10 = .ok (.aload_n 0, 1) := by decide +kernel
theorem d_Spread_scoreGroup_11 : decode prog_9_method_8_code 11 = .ok (.getfield 15, 3) := by decide +kernel
theorem d_Spread_scoreGroup_14 : decode prog_9_method_8_code 14 = .ok (.invokevirtual 144, 3) := by decide +kernel
theorem d_Spread_scoreGroup_17 : decode prog_9_method_8_code 17 = .ok (.if_icmp .ge 51, 3) := by decide +kernel
theorem d_Spread_scoreGroup_20 : decode prog_9_method_8_code 20 = .ok (.aload_n 0, 1) := by decide +kernel
theorem d_Spread_scoreGroup_21 : decode prog_9_method_8_code 21 = .ok (.getfield 15, 3) := by decide +kernel
theorem d_Spread_scoreGroup_24 : decode prog_9_method_8_code 24 = .ok (.iload_n 2, 1) := by decide +kernel
theorem d_Spread_scoreGroup_25 : decode prog_9_method_8_code 25 = .ok (.invokevirtual 118, 3) := by decide +kernel
theorem d_Spread_scoreGroup_28 : decode prog_9_method_8_code 28 = .ok (.astore_n 3, 1) := by decide +kernel
theorem d_Spread_scoreGroup_29 : decode prog_9_method_8_code 29 = .ok (.aload_n 3, 1) := by decide +kernel
theorem d_Spread_scoreGroup_30 : decode prog_9_method_8_code 30 = .ok (.ifnull 32, 3) := by decide +kernel
theorem d_Spread_scoreGroup_33 : decode prog_9_method_8_code 33 = .ok (.aload_n 3, 1) := by decide +kernel
theorem d_Spread_scoreGroup_34 : decode prog_9_method_8_code 34 = .ok (.invokevirtual 136, 3) := by decide +kernel
theorem d_Spread_scoreGroup_37 : decode prog_9_method_8_code 37 = .ok (.iload_n 1, 1) := by decide +kernel
theorem d_Spread_scoreGroup_38 : decode prog_9_method_8_code 38 = .ok (.if_icmp .ne 24, 3) := by decide +kernel
theorem d_Spread_scoreGroup_41 : decode prog_9_method_8_code 41 = .ok (.aload_n 0, 1) := by decide +kernel
theorem d_Spread_scoreGroup_42 : decode prog_9_method_8_code 42 = .ok (.iload_n 2, 1) := by decide +kernel
theorem d_Spread_scoreGroup_43 : decode prog_9_method_8_code 43 = .ok (.aload_n 3, 1) := by decide +kernel
theorem d_Spread_scoreGroup_44 : decode prog_9_method_8_code 44 = .ok (.invokevirtual 147, 3) := by decide +kernel
theorem d_Spread_scoreGroup_47 : decode prog_9_method_8_code 47 = .ok (.aload_n 0, 1) := by decide +kernel
theorem d_Spread_scoreGroup_48 : decode prog_9_method_8_code 48 = .ok (.getfield 29, 3) := by decide +kernel
theorem d_Spread_scoreGroup_51 : decode prog_9_method_8_code 51 = .ok (.aload_n 0, 1) := by decide +kernel
theorem d_Spread_scoreGroup_52 : decode prog_9_method_8_code 52 = .ok (.getfield 32, 3) := by decide +kernel
theorem d_Spread_scoreGroup_55 : decode prog_9_method_8_code 55 = .ok (.aload_n 0, 1) := by decide +kernel
theorem d_Spread_scoreGroup_56 : decode prog_9_method_8_code 56 = .ok (.invokevirtual 71, 3) := by decide +kernel
theorem d_Spread_scoreGroup_59 : decode prog_9_method_8_code 59 = .ok (.invokestatic 74, 3) := by decide +kernel
theorem d_Spread_scoreGroup_62 : decode prog_9_method_8_code 62 = .ok (.iinc 2 1, 3) := by decide +kernel
theorem d_Spread_scoreGroup_65 : decode prog_9_method_8_code 65 = .ok (.goto (-56), 3) := by decide +kernel
theorem d_Spread_scoreGroup_68 : decode prog_9_method_8_code 68 = .ok (.iconst 0, 1) := by decide +kernel
theorem d_Spread_scoreGroup_69 : decode prog_9_method_8_code 69 = .ok (.istore_n 2, 1) := by decide +kernel
theorem d_Spread_scoreGroup_70 : decode prog_9_method_8_code 70 = .ok (.iload_n 2, 1) := by decide +kernel
theorem d_Spread_scoreGroup_71 : decode prog_9_method_8_code 71 = .ok (.iconst 4, 1) := by decide +kernel
theorem d_Spread_scoreGroup_72 : decode prog_9_method_8_code 72 = .ok (.if_icmp .ge 25, 3) := by decide +kernel
theorem d_Spread_scoreGroup_75 : decode prog_9_method_8_code 75 = .ok (.aload_n 0, 1) := by decide +kernel
theorem d_Spread_scoreGroup_76 : decode prog_9_method_8_code 76 = .ok (.aload_n 0, 1) := by decide +kernel
theorem d_Spread_scoreGroup_77 : decode prog_9_method_8_code 77 = .ok (.iload_n 1, 1) := by decide +kernel
theorem d_Spread_scoreGroup_78 : decode prog_9_method_8_code 78 = .ok (.iload_n 2, 1) := by decide +kernel
theorem d_Spread_scoreGroup_79 : decode prog_9_method_8_code 79 = .ok (.invokevirtual 151, 3) := by decide +kernel
theorem d_Spread_scoreGroup_82 : decode prog_9_method_8_code 82 = .ok (.aload_n 0, 1) := by decide +kernel
theorem d_Spread_scoreGroup_83 : decode prog_9_method_8_code 83 = .ok (.getfield 39, 3) := by decide +kernel
theorem d_Spread_scoreGroup_86 : decode prog_9_method_8_code 86 = .ok (.iload_n 2, 1) := by decide +kernel
theorem d_Spread_scoreGroup_87 : decode prog_9_method_8_code 87 = .ok (.iaload, 1) := by decide +kernel
theorem d_Spread_scoreGroup_88 : decode prog_9_method_8_code 88 = .ok (.invokevirtual 154, 3) := by decide +kernel
theorem d_Spread_scoreGroup_91 : decode prog_9_method_8_code 91 = .ok (.iinc 2 1, 3) := by decide +kernel
theorem d_Spread_scoreGroup_94 : decode prog_9_method_8_code 94 = .ok (.goto (-24), 3) := by decide +kernel
theorem d_Spread_scoreGroup_97 : decode prog_9_method_8_code 97 = .ok (.return_, 1) := by decide +kernel
theorem d_Spread_mostIn_0 : decode prog_9_method_9_code 0 = .ok (.iload_n 1, 1) := by decide +kernel
theorem d_Spread_mostIn_1 : decode prog_9_method_9_code 1 = .ok (.iconst 4, 1) := by decide +kernel
theorem d_Spread_mostIn_2 : decode prog_9_method_9_code 2 = .ok (.imul, 1) := by decide +kernel
theorem d_Spread_mostIn_3 : decode prog_9_method_9_code 3 = .ok (.iload_n 2, 1) := by decide +kernel
theorem d_Spread_mostIn_4 : decode prog_9_method_9_code 4 = .ok (.iadd, 1) := by decide +kernel
theorem d_Spread_mostIn_5 : decode prog_9_method_9_code 5 = .ok (.istore_n 3, 1) := by decide +kernel
theorem d_Spread_mostIn_6 : decode prog_9_method_9_code 6 = .ok (.iload_n 3, 1) := by decide +kernel
theorem d_Spread_mostIn_7 : decode prog_9_method_9_code 7 = .ok (.iconst 0, 1) := by decide +kernel
theorem d_Spread_mostIn_8 : decode prog_9_method_9_code 8 = .ok (.aload_n 0, 1) := by decide +kernel
theorem d_Spread_mostIn_9 : decode prog_9_method_9_code 9 = .ok (.getfield 45, 3) := by decide +kernel
theorem d_Spread_mostIn_12 : decode prog_9_method_9_code 12 = .ok (.arraylength, 1) := by decide +kernel
theorem d_Spread_mostIn_13 : decode prog_9_method_9_code 13 = .ok (.iconst 1, 1) := by decide +kernel
theorem d_Spread_mostIn_14 : decode prog_9_method_9_code 14 = .ok (.isub, 1) := by decide +kernel
theorem d_Spread_mostIn_15 : decode prog_9_method_9_code 15 = .ok (.invokestatic 90, 3) := by decide +kernel
theorem d_Spread_mostIn_18 : decode prog_9_method_9_code 18 = .ok (.ifCond .eq 12, 3) := by decide +kernel
theorem d_Spread_mostIn_21 : decode prog_9_method_9_code 21 = .ok (.aload_n 0, 1) := by decide +kernel
theorem d_Spread_mostIn_22 : decode prog_9_method_9_code 22 = .ok (.getfield 45, 3) := by decide +kernel
theorem d_Spread_mostIn_25 : decode prog_9_method_9_code 25 = .ok (.iload_n 3, 1) := by decide +kernel
theorem d_Spread_mostIn_26 : decode prog_9_method_9_code 26 = .ok (.iaload, 1) := by decide +kernel
theorem d_Spread_mostIn_27 : decode prog_9_method_9_code 27 = .ok (.goto 4, 3) := by decide +kernel
theorem d_Spread_mostIn_30 : decode prog_9_method_9_code 30 = .ok (.iconst 0, 1) := by decide +kernel
theorem d_Spread_mostIn_31 : decode prog_9_method_9_code 31 = .ok (.istore 4, 2) := by decide +kernel
theorem d_Spread_mostIn_33 : decode prog_9_method_9_code 33 = .ok (.iload_n 2, 1) := by decide +kernel
theorem d_Spread_mostIn_34 : decode prog_9_method_9_code 34 = .ok (.iconst 0, 1) := by decide +kernel
theorem d_Spread_mostIn_35 : decode prog_9_method_9_code 35 = .ok (.iconst 3, 1) := by decide +kernel
theorem d_Spread_mostIn_36 : decode prog_9_method_9_code 36 = .ok (.invokestatic 90, 3) := by decide +kernel
theorem d_Spread_mostIn_39 : decode prog_9_method_9_code 39 = .ok (.ifCond .eq 12, 3) := by decide +kernel
theorem d_Spread_mostIn_42 : decode prog_9_method_9_code 42 = .ok (.aload_n 0, 1) := by decide +kernel
theorem d_Spread_mostIn_43 : decode prog_9_method_9_code 43 = .ok (.getfield 42, 3) := by decide +kernel
theorem d_Spread_mostIn_46 : decode prog_9_method_9_code 46 = .ok (.iload_n 2, 1) := by decide +kernel
theorem d_Spread_mostIn_47 : decode prog_9_method_9_code 47 = .ok (.iaload, 1) := by decide +kernel
theorem d_Spread_mostIn_48 : decode prog_9_method_9_code 48 = .ok (.goto 4, 3) := by decide +kernel
theorem d_Spread_mostIn_51 : decode prog_9_method_9_code 51 = .ok (.iconst 0, 1) := by decide +kernel
theorem d_Spread_mostIn_52 : decode prog_9_method_9_code 52 = .ok (.istore 5, 2) := by decide +kernel
theorem d_Spread_mostIn_54 : decode prog_9_method_9_code 54 = .ok (.iload 5, 2) := by decide +kernel
theorem d_Spread_mostIn_56 : decode prog_9_method_9_code 56 = .ok (.aload_n 0, 1) := by decide +kernel
theorem d_Spread_mostIn_57 : decode prog_9_method_9_code 57 = .ok (.getfield 15, 3) := by decide +kernel
theorem d_Spread_mostIn_60 : decode prog_9_method_9_code 60 = .ok (.iload_n 2, 1) := by decide +kernel
theorem d_Spread_mostIn_61 : decode prog_9_method_9_code 61 = .ok (.invokevirtual 158, 3) := by decide +kernel
theorem d_Spread_mostIn_64 : decode prog_9_method_9_code 64 = .ok (.isub, 1) := by decide +kernel
theorem d_Spread_mostIn_65 : decode prog_9_method_9_code 65 = .ok (.iload 4, 2) := by decide +kernel
theorem d_Spread_mostIn_67 : decode prog_9_method_9_code 67 = .ok (.isub, 1) := by decide +kernel
theorem d_Spread_mostIn_68 : decode prog_9_method_9_code 68 = .ok (.ireturn, 1) := by decide +kernel
theorem d_Spread_strikeAbove_0 : decode prog_9_method_10_code 0 = .ok (.iconst 0, 1) := by decide +kernel
theorem d_Spread_strikeAbove_1 : decode prog_9_method_10_code 1 = .ok (.istore_n 3, 1) := by decide +kernel
theorem d_Spread_strikeAbove_2 : decode prog_9_method_10_code 2 = .ok (.iload_n 3, 1) := by decide +kernel
theorem d_Spread_strikeAbove_3 : decode prog_9_method_10_code 3 = .ok (.aload_n 0, 1) := by decide +kernel
theorem d_Spread_strikeAbove_4 : decode prog_9_method_10_code 4 = .ok (.invokevirtual 71, 3) := by decide +kernel
theorem d_Spread_strikeAbove_7 : decode prog_9_method_10_code 7 = .ok (.if_icmp .ge 35, 3) := by decide +kernel
theorem d_Spread_strikeAbove_10 : decode prog_9_method_10_code 10 = .ok (.iload_n 3, 1) := by decide +kernel
theorem d_Spread_strikeAbove_11 : decode prog_9_method_10_code 11 = .ok (.sipush 256, 3) := by decide +kernel
theorem d_Spread_strikeAbove_14 : decode prog_9_method_10_code 14 = .ok (.if_icmp .ge 28, 3) := by decide +kernel
theorem d_Spread_strikeAbove_17 : decode prog_9_method_10_code 17 = .ok (.iload_n 3, 1) := by decide +kernel
theorem d_Spread_strikeAbove_18 : decode prog_9_method_10_code 18 = .ok (.iload_n 2, 1) := by decide +kernel
theorem d_Spread_strikeAbove_19 : decode prog_9_method_10_code 19 = .ok (.iand, 1) := by decide +kernel
theorem d_Spread_strikeAbove_20 : decode prog_9_method_10_code 20 = .ok (.invokestatic 162, 3) := by decide +kernel
theorem d_Spread_strikeAbove_23 : decode prog_9_method_10_code 23 = .ok (.iload_n 1, 1) := by decide +kernel
theorem d_Spread_strikeAbove_24 : decode prog_9_method_10_code 24 = .ok (.if_icmp .le 12, 3) := by decide +kernel
theorem d_Spread_strikeAbove_27 : decode prog_9_method_10_code 27 = .ok (.aload_n 0, 1) := by decide +kernel
theorem d_Spread_strikeAbove_28 : decode prog_9_method_10_code 28 = .ok (.getfield 29, 3) := by decide +kernel
theorem d_Spread_strikeAbove_31 : decode prog_9_method_10_code 31 = .ok (.iload_n 3, 1) := by decide +kernel
theorem d_Spread_strikeAbove_32 : decode prog_9_method_10_code 32 = .ok (.ldc2_w 82, 3) := by decide +kernel
theorem d_Spread_strikeAbove_35 : decode prog_9_method_10_code 35 = .ok (.lastore, 1) := by decide +kernel
theorem d_Spread_strikeAbove_36 : decode prog_9_method_10_code 36 = .ok (.iinc 3 1, 3) := by decide +kernel
theorem d_Spread_strikeAbove_39 : decode prog_9_method_10_code 39 = .ok (.goto (-37), 3) := by decide +kernel
theorem d_Spread_strikeAbove_42 : decode prog_9_method_10_code 42 = .ok (.return_, 1) := by decide +kernel
theorem d_Spread_scorePlace_0 : decode prog_9_method_11_code 0 = .ok (.aload_n 2, 1) := by decide +kernel
theorem d_Spread_scorePlace_1 : decode prog_9_method_11_code 1 = .ok (.invokevirtual 167, 3) := by decide +kernel
theorem d_Spread_scorePlace_4 : decode prog_9_method_11_code 4 = .ok (.iload_n 1, 1) := by decide +kernel
theorem d_Spread_scorePlace_5 : decode prog_9_method_11_code 5 = .ok (.iconst 0, 1) := by decide +kernel
theorem d_Spread_scorePlace_6 : decode prog_9_method_11_code 6 = .ok (.iconst 4, 1) := by decide +kernel
theorem d_Spread_scorePlace_7 : decode prog_9_method_11_code 7 = .ok (.invokestatic 90, 3) := by decide +kernel
theorem d_Spread_scorePlace_10 : decode prog_9_method_11_code 10 = .ok (.ifCond .eq 12, 3) := by decide +kernel
theorem d_Spread_scorePlace_13 : decode prog_9_method_11_code 13 = .ok (.aload_n 0, 1) := by decide +kernel
theorem d_Spread_scorePlace_14 : decode prog_9_method_11_code 14 = .ok (.getfield 48, 3) := by decide +kernel
theorem d_Spread_scorePlace_17 : decode prog_9_method_11_code 17 = .ok (.iload_n 1, 1) := by decide +kernel
theorem d_Spread_scorePlace_18 : decode prog_9_method_11_code 18 = .ok (.iaload, 1) := by decide +kernel
theorem d_Spread_scorePlace_19 : decode prog_9_method_11_code 19 = .ok (.goto 4, 3) := by decide +kernel
theorem d_Spread_scorePlace_22 : decode prog_9_method_11_code 22 = .ok (.iconst 0, 1) := by decide +kernel
theorem d_Spread_scorePlace_23 : decode prog_9_method_11_code 23 = .ok (.isub, 1) := by decide +kernel
theorem d_Spread_scorePlace_24 : decode prog_9_method_11_code 24 = .ok (.istore_n 3, 1) := by decide +kernel
theorem d_Spread_scorePlace_25 : decode prog_9_method_11_code 25 = .ok (.aload_n 0, 1) := by decide +kernel
theorem d_Spread_scorePlace_26 : decode prog_9_method_11_code 26 = .ok (.getfield 32, 3) := by decide +kernel
theorem d_Spread_scorePlace_29 : decode prog_9_method_11_code 29 = .ok (.invokestatic 61, 3) := by decide +kernel
theorem d_Spread_scorePlace_32 : decode prog_9_method_11_code 32 = .ok (.iconst 0, 1) := by decide +kernel
theorem d_Spread_scorePlace_33 : decode prog_9_method_11_code 33 = .ok (.istore 4, 2) := by decide +kernel
theorem d_Spread_scorePlace_35 : decode prog_9_method_11_code 35 = .ok (.iload 4, 2) := by decide +kernel
theorem d_Spread_scorePlace_37 : decode prog_9_method_11_code 37 = .ok (.aload_n 0, 1) := by decide +kernel
theorem d_Spread_scorePlace_38 : decode prog_9_method_11_code 38 = .ok (.getfield 22, 3) := by decide +kernel
theorem d_Spread_scorePlace_41 : decode prog_9_method_11_code 41 = .ok (.invokevirtual 54, 3) := by decide +kernel
theorem d_Spread_scorePlace_44 : decode prog_9_method_11_code 44 = .ok (.if_icmp .ge 146, 3) := by decide +kernel
theorem d_Spread_scorePlace_47 : decode prog_9_method_11_code 47 = .ok (.iload 4, 2) := by decide +kernel
theorem d_Spread_scorePlace_49 : decode prog_9_method_11_code 49 = .ok (.bipush 8, 2) := by decide +kernel
theorem d_Spread_scorePlace_51 : decode prog_9_method_11_code 51 = .ok (.if_icmp .ge 139, 3) := by decide +kernel
theorem d_Spread_scorePlace_54 : decode prog_9_method_11_code 54 = .ok (.aload_n 0, 1) := by decide +kernel
theorem d_Spread_scorePlace_55 : decode prog_9_method_11_code 55 = .ok (.getfield 22, 3) := by decide +kernel
theorem d_Spread_scorePlace_58 : decode prog_9_method_11_code 58 = .ok (.iload 4, 2) := by decide +kernel
theorem d_Spread_scorePlace_60 : decode prog_9_method_11_code 60 = .ok (.invokevirtual 102, 3) := by decide +kernel
theorem d_Spread_scorePlace_63 : decode prog_9_method_11_code 63 = .ok (.checkcast 106, 3) := by decide +kernel
theorem d_Spread_scorePlace_66 : decode prog_9_method_11_code 66 = .ok (.astore 5, 2) := by decide +kernel
theorem d_Spread_scorePlace_68 : decode prog_9_method_11_code 68 = .ok (.aload_n 0, 1) := by decide +kernel
theorem d_Spread_scorePlace_69 : decode prog_9_method_11_code 69 = .ok (.getfield 15, 3) := by decide +kernel
theorem d_Spread_scorePlace_72 : decode prog_9_method_11_code 72 = .ok (.aload_n 2, 1) := by decide +kernel
theorem d_Spread_scorePlace_73 : decode prog_9_method_11_code 73 = .ok (.aload 5, 2) := by decide +kernel
theorem d_Spread_scorePlace_75 : decode prog_9_method_11_code 75 = .ok (.invokevirtual 128, 3) := by decide +kernel
theorem d_Spread_scorePlace_78 : decode prog_9_method_11_code 78 = .ok (.ifCond .eq 14, 3) := by decide +kernel
theorem d_Spread_scorePlace_81 : decode prog_9_method_11_code 81 = .ok (.aload_n 0, 1) := by decide +kernel
theorem d_Spread_scorePlace_82 : decode prog_9_method_11_code 82 = .ok (.aload 5, 2) := by decide +kernel
theorem d_Spread_scorePlace_84 : decode prog_9_method_11_code 84 = .ok (.iload_n 1, 1) := by decide +kernel
theorem d_Spread_scorePlace_85 : decode prog_9_method_11_code 85 = .ok (.aload_n 2, 1) := by decide +kernel
theorem d_Spread_scorePlace_86 : decode prog_9_method_11_code 86 = .ok (.invokevirtual 168, 3) := by decide +kernel
theorem d_Spread_scorePlace_89 : decode prog_9_method_11_code 89 = .ok (.goto 6, 3) := by decide +kernel
theorem d_Spread_scorePlace_92 : decode prog_9_method_11_code 92 = .ok (.ldc2_w 82, 3) := by decide +kernel
theorem d_Spread_scorePlace_95 : decode prog_9_method_11_code 95 = .ok (.lstore 6, 2) := by decide +kernel
theorem d_Spread_scorePlace_97 : decode prog_9_method_11_code 97 = .ok (.iconst 1, 1) := by decide +kernel
theorem d_Spread_scorePlace_98 : decode prog_9_method_11_code 98 = .ok (.iload 4, 2) := by decide +kernel
theorem d_Spread_scorePlace_100 : decode prog_9_method_11_code 100 = .ok (.ishl, 1) := by decide +kernel
theorem d_Spread_scorePlace_101 : decode prog_9_method_11_code 101 = .ok (.istore 8, 2) := by decide +kernel
theorem d_Spread_scorePlace_103 : decode prog_9_method_11_code 103 = .ok (.iconst 0, 1) := by decide +kernel
theorem d_Spread_scorePlace_104 : decode prog_9_method_11_code 104 = .ok (.istore 9, 2) := by decide +kernel
theorem d_Spread_scorePlace_106 : decode prog_9_method_11_code 106 = .ok (.iload 9, 2) := by decide +kernel
theorem d_Spread_scorePlace_108 : decode prog_9_method_11_code 108 = .ok (.iload 8, 2) := by decide +kernel
theorem d_Spread_scorePlace_110 : decode prog_9_method_11_code 110 = .ok (.if_icmp .ge 74, 3) := by decide +kernel
theorem d_Spread_scorePlace_113 : decode prog_9_method_11_code 113 = .ok (.iload 9, 2) := by decide +kernel
theorem d_Spread_scorePlace_115 : decode prog_9_method_11_code 115 = .ok (.iload 8, 2) := by decide +kernel
theorem d_Spread_scorePlace_117 : decode prog_9_method_11_code 117 = .ok (.iadd, 1) := by decide +kernel
theorem d_Spread_scorePlace_118 : decode prog_9_method_11_code 118 = .ok (.sipush 256, 3) := by decide +kernel
theorem d_Spread_scorePlace_121 : decode prog_9_method_11_code 121 = .ok (.if_icmp .ge 63, 3) := by decide +kernel
theorem d_Spread_scorePlace_124 : decode prog_9_method_11_code 124 = .ok (.aload_n 0, 1) := by decide +kernel
theorem d_Spread_scorePlace_125 : decode prog_9_method_11_code 125 = .ok (.getfield 35, 3) := by decide +kernel
theorem d_Spread_scorePlace_128 : decode prog_9_method_11_code 128 = .ok (.iload 9, 2) := by decide +kernel
theorem d_Spread_scorePlace_130 : decode prog_9_method_11_code 130 = .ok (.iload 8, 2) := by decide +kernel
theorem d_Spread_scorePlace_132 : decode prog_9_method_11_code 132 = .ok (.iadd, 1) := by decide +kernel
theorem d_Spread_scorePlace_133 : decode prog_9_method_11_code 133 = .ok (.iaload, 1) := by decide +kernel
theorem d_Spread_scorePlace_134 : decode prog_9_method_11_code 134 = .ok (.iload_n 3, 1) := by decide +kernel
theorem d_Spread_scorePlace_135 : decode prog_9_method_11_code 135 = .ok (.if_icmp .gt 7, 3) := by decide +kernel
theorem d_Spread_scorePlace_138 : decode prog_9_method_11_code 138 = .ok (.iconst 1, 1) := by decide +kernel
theorem d_Spread_scorePlace_139 : decode prog_9_method_11_code 139 = .ok (.goto 4, 3) := by decide +kernel
theorem d_Spread_scorePlace_142 : decode prog_9_method_11_code 142 = .ok (.iconst 0, 1) := by decide +kernel
theorem d_Spread_scorePlace_143 : decode prog_9_method_11_code 143 = .ok (.istore 10, 2) := by decide +kernel
theorem d_Spread_scorePlace_145 : decode prog_9_method_11_code 145 = .ok (.aload_n 0, 1) := by decide +kernel
theorem d_Spread_scorePlace_146 : decode prog_9_method_11_code 146 = .ok (.getfield 32, 3) := by decide +kernel
theorem d_Spread_scorePlace_149 : decode prog_9_method_11_code 149 = .ok (.iload 9, 2) := by decide +kernel
theorem d_Spread_scorePlace_151 : decode prog_9_method_11_code 151 = .ok (.iload 8, 2) := by decide +kernel
theorem d_Spread_scorePlace_153 : decode prog_9_method_11_code 153 = .ok (.iadd, 1) := by decide +kernel
theorem d_Spread_scorePlace_154 : decode prog_9_method_11_code 154 = .ok (.iload 10, 2) := by decide +kernel
theorem d_Spread_scorePlace_156 : decode prog_9_method_11_code 156 = .ok (.ifCond .eq 18, 3) := by decide +kernel
theorem d_Spread_scorePlace_159 : decode prog_9_method_11_code 159 = .ok (.aload_n 0, 1) := by decide +kernel
theorem d_Spread_scorePlace_160 : decode prog_9_method_11_code 160 = .ok (.getfield 32, 3) := by decide +kernel
theorem d_Spread_scorePlace_163 : decode prog_9_method_11_code 163 = .ok (.iload 9, 2) := by decide +kernel
theorem d_Spread_scorePlace_165 : decode prog_9_method_11_code 165 = .ok (.laload, 1) := by decide +kernel
theorem d_Spread_scorePlace_166 : decode prog_9_method_11_code 166 = .ok (.lload 6, 2) := by decide +kernel
theorem d_Spread_scorePlace_168 : decode prog_9_method_11_code 168 = .ok (.invokestatic 172, 3) := by decide +kernel
theorem d_Spread_scorePlace_171 : decode prog_9_method_11_code 171 = .ok (.goto 6, 3) := by decide +kernel
theorem d_Spread_scorePlace_174 : decode prog_9_method_11_code 174 = .ok (.ldc2_w 82, 3) := by decide +kernel
theorem d_Spread_scorePlace_177 : decode prog_9_method_11_code 177 = .ok (.lastore, 1) := by decide +kernel
theorem d_Spread_scorePlace_178 : decode prog_9_method_11_code 178 = .ok (.iinc 9 1, 3) := by decide +kernel
theorem d_Spread_scorePlace_181 : decode prog_9_method_11_code 181 = .ok (.goto (-75), 3) := by decide +kernel
theorem d_Spread_scorePlace_184 : decode prog_9_method_11_code 184 = .ok (.iinc 4 1, 3) := by decide +kernel
theorem d_Spread_scorePlace_187 : decode prog_9_method_11_code 187 = .ok (.goto (-152), 3) := by decide +kernel
theorem d_Spread_scorePlace_190 : decode prog_9_method_11_code 190 = .ok (.return_, 1) := by decide +kernel
theorem d_Spread_shiftOf_0 : decode prog_9_method_12_code 0 = .ok (.iconst 3, 1) := by decide +kernel
theorem d_Spread_shiftOf_1 : decode prog_9_method_12_code 1 = .ok (.bipush 15, 2) := by decide +kernel
theorem d_Spread_shiftOf_3 : decode prog_9_method_12_code 3 = .ok (.aload_n 0, 1) := by decide +kernel
theorem d_Spread_shiftOf_4 : decode prog_9_method_12_code 4 = .ok (.invokevirtual 176, 3) := by decide +kernel
theorem d_Spread_shiftOf_7 : decode prog_9_method_12_code 7 = .ok (.isub, 1) := by decide +kernel
theorem d_Spread_shiftOf_8 : decode prog_9_method_12_code 8 = .ok (.imul, 1) := by decide +kernel
theorem d_Spread_shiftOf_9 : decode prog_9_method_12_code 9 = .ok (.ireturn, 1) := by decide +kernel
theorem d_Spread_scoreOf_0 : decode prog_9_method_13_code 0 = .ok (.aload_n 0, 1) := by decide +kernel
theorem d_Spread_scoreOf_1 : decode prog_9_method_13_code 1 = .ok (.getfield 15, 3) := by decide +kernel
theorem d_Spread_scoreOf_4 : decode prog_9_method_13_code 4 = .ok (.aload_n 1, 1) := by decide +kernel
theorem d_Spread_scoreOf_5 : decode prog_9_method_13_code 5 = .ok (.aload_n 3, 1) := by decide +kernel
theorem d_Spread_scoreOf_6 : decode prog_9_method_13_code 6 = .ok (.invokevirtual 179, 3) := by decide +kernel
theorem d_Spread_scoreOf_9 : decode prog_9_method_13_code 9 = .ok (.i2l, 1) := by decide +kernel
theorem d_Spread_scoreOf_10 : decode prog_9_method_13_code 10 = .ok (.bipush 48, 2) := by decide +kernel
theorem d_Spread_scoreOf_12 : decode prog_9_method_13_code 12 = .ok (.lshl, 1) := by decide +kernel
theorem d_Spread_scoreOf_13 : decode prog_9_method_13_code 13 = .ok (.iload_n 2, 1) := by decide +kernel
theorem d_Spread_scoreOf_14 : decode prog_9_method_13_code 14 = .ok (.i2l, 1) := by decide +kernel
theorem d_Spread_scoreOf_15 : decode prog_9_method_13_code 15 = .ok (.aload_n 1, 1) := by decide +kernel
theorem d_Spread_scoreOf_16 : decode prog_9_method_13_code 16 = .ok (.invokestatic 183, 3) := by decide +kernel
theorem d_Spread_scoreOf_19 : decode prog_9_method_13_code 19 = .ok (.lshl, 1) := by decide +kernel
theorem d_Spread_scoreOf_20 : decode prog_9_method_13_code 20 = .ok (.ladd, 1) := by decide +kernel
theorem d_Spread_scoreOf_21 : decode prog_9_method_13_code 21 = .ok (.lneg, 1) := by decide +kernel
theorem d_Spread_scoreOf_22 : decode prog_9_method_13_code 22 = .ok (.lreturn, 1) := by decide +kernel
theorem d_Spread_carryOut_0 : decode prog_9_method_14_code 0 = .ok (.aload_n 0, 1) := by decide +kernel
theorem d_Spread_carryOut_1 : decode prog_9_method_14_code 1 = .ok (.invokevirtual 78, 3) := by decide +kernel
theorem d_Spread_carryOut_4 : decode prog_9_method_14_code 4 = .ok (.lneg, 1) := by decide +kernel
theorem d_Spread_carryOut_5 : decode prog_9_method_14_code 5 = .ok (.lstore_n 1, 1) := by decide +kernel
theorem d_Spread_carryOut_6 : decode prog_9_method_14_code 6 = .ok (.iconst 0, 1) := by decide +kernel
theorem d_Spread_carryOut_7 : decode prog_9_method_14_code 7 = .ok (.istore_n 3, 1) := by decide +kernel
theorem d_Spread_carryOut_8 : decode prog_9_method_14_code 8 = .ok (.iload_n 3, 1) := by decide +kernel
theorem d_Spread_carryOut_9 : decode prog_9_method_14_code 9 = .ok (.aload_n 0, 1) := by decide +kernel
theorem d_Spread_carryOut_10 : decode prog_9_method_14_code 10 = .ok (.getfield 22, 3) := by decide +kernel
theorem d_Spread_carryOut_13 : decode prog_9_method_14_code 13 = .ok (.invokevirtual 54, 3) := by decide +kernel
theorem d_Spread_carryOut_16 : decode prog_9_method_14_code 16 = .ok (.if_icmp .ge 43, 3) := by decide +kernel
theorem d_Spread_carryOut_19 : decode prog_9_method_14_code 19 = .ok (.aload_n 0, 1) := by decide +kernel
theorem d_Spread_carryOut_20 : decode prog_9_method_14_code 20 = .ok (.getfield 22, 3) := by decide +kernel
theorem d_Spread_carryOut_23 : decode prog_9_method_14_code 23 = .ok (.iload_n 3, 1) := by decide +kernel
theorem d_Spread_carryOut_24 : decode prog_9_method_14_code 24 = .ok (.invokevirtual 102, 3) := by decide +kernel
theorem d_Spread_carryOut_27 : decode prog_9_method_14_code 27 = .ok (.checkcast 106, 3) := by decide +kernel
theorem d_Spread_carryOut_30 : decode prog_9_method_14_code 30 = .ok (.astore 4, 2) := by decide +kernel
theorem d_Spread_carryOut_32 : decode prog_9_method_14_code 32 = .ok (.aload_n 0, 1) := by decide +kernel
theorem d_Spread_carryOut_33 : decode prog_9_method_14_code 33 = .ok (.getfield 15, 3) := by decide +kernel
theorem d_Spread_carryOut_36 : decode prog_9_method_14_code 36 = .ok (.aload 4, 2) := by decide +kernel
theorem d_Spread_carryOut_38 : decode prog_9_method_14_code 38 = .ok (.lload_n 1, 1) := by decide +kernel
theorem d_Spread_carryOut_39 : decode prog_9_method_14_code 39 = .ok (.aload 4, 2) := by decide +kernel
theorem d_Spread_carryOut_41 : decode prog_9_method_14_code 41 = .ok (.invokestatic 183, 3) := by decide +kernel
theorem d_Spread_carryOut_44 : decode prog_9_method_14_code 44 = .ok (.lshr, 1) := by decide +kernel
theorem d_Spread_carryOut_45 : decode prog_9_method_14_code 45 = .ok (.l2i, 1) := by decide +kernel
theorem d_Spread_carryOut_46 : decode prog_9_method_14_code 46 = .ok (.bipush 7, 2) := by decide +kernel
theorem d_Spread_carryOut_48 : decode prog_9_method_14_code 48 = .ok (.iand, 1) := by decide +kernel
theorem d_Spread_carryOut_49 : decode prog_9_method_14_code 49 = .ok (.invokevirtual 187, 3) := by decide +kernel
theorem d_Spread_carryOut_52 : decode prog_9_method_14_code 52 = .ok (.pop, 1) := by decide +kernel
theorem d_Spread_carryOut_53 : decode prog_9_method_14_code 53 = .ok (.iinc 3 1, 3) := by decide +kernel
theorem d_Spread_carryOut_56 : decode prog_9_method_14_code 56 = .ok (.goto (-48), 3) := by decide +kernel
theorem d_Spread_carryOut_59 : decode prog_9_method_14_code 59 = .ok (.return_, 1) := by decide +kernel
theorem d_Team_init_0 : decode prog_10_method_1_code 0 = .ok (.aload_n 0, 1) := by decide +kernel
theorem d_Team_init_1 : decode prog_10_method_1_code 1 = .ok (.invokespecial 3, 3) := by decide +kernel
theorem d_Team_init_4 : decode prog_10_method_1_code 4 = .ok (.aload_n 0, 1) := by decide +kernel
theorem d_Team_init_5 : decode prog_10_method_1_code 5 = .ok (.iload_n 1, 1) := by decide +kernel
theorem d_Team_init_6 : decode prog_10_method_1_code 6 = .ok (.putfield 9, 3) := by decide +kernel
theorem d_Team_init_9 : decode prog_10_method_1_code 9 = .ok (.return_, 1) := by decide +kernel
theorem d_Team_hands_0 : decode prog_10_method_2_code 0 = .ok (.aload_n 0, 1) := by decide +kernel
theorem d_Team_hands_1 : decode prog_10_method_2_code 1 = .ok (.getfield 9, 3) := by decide +kernel
theorem d_Team_hands_4 : decode prog_10_method_2_code 4 = .ok (.ireturn, 1) := by decide +kernel
theorem d_Team_freeFrom_0 : decode prog_10_method_3_code 0 = .ok (.aload_n 0, 1) := by decide +kernel
theorem d_Team_freeFrom_1 : decode prog_10_method_3_code 1 = .ok (.getfield 15, 3) := by decide +kernel
theorem d_Team_freeFrom_4 : decode prog_10_method_3_code 4 = .ok (.iload_n 1, 1) := by decide +kernel
theorem d_Team_freeFrom_5 : decode prog_10_method_3_code 5 = .ok (.invokestatic 18, 3) := by decide +kernel
theorem d_Team_freeFrom_8 : decode prog_10_method_3_code 8 = .ok (.ireturn, 1) := by decide +kernel
theorem d_Team_isBusy_0 : decode prog_10_method_4_code 0 = .ok (.aload_n 0, 1) := by decide +kernel
theorem d_Team_isBusy_1 : decode prog_10_method_4_code 1 = .ok (.getfield 24, 3) := by decide +kernel
theorem d_Team_isBusy_4 : decode prog_10_method_4_code 4 = .ok (.ifnull 7, 3) := by decide +kernel
theorem d_Team_isBusy_7 : decode prog_10_method_4_code 7 = .ok (.iconst 1, 1) := by decide +kernel
theorem d_Team_isBusy_8 : decode prog_10_method_4_code 8 = .ok (.goto 4, 3) := by decide +kernel
theorem d_Team_isBusy_11 : decode prog_10_method_4_code 11 = .ok (.iconst 0, 1) := by decide +kernel
theorem d_Team_isBusy_12 : decode prog_10_method_4_code 12 = .ok (.ireturn, 1) := by decide +kernel
theorem d_Team_delay_0 : decode prog_10_method_5_code 0 = .ok (.aload_n 0, 1) := by decide +kernel
theorem d_Team_delay_1 : decode prog_10_method_5_code 1 = .ok (.aload_n 0, 1) := by decide +kernel
theorem d_Team_delay_2 : decode prog_10_method_5_code 2 = .ok (.iload_n 1, 1) := by decide +kernel
theorem d_Team_delay_3 : decode prog_10_method_5_code 3 = .ok (.invokevirtual 28, 3) := by decide +kernel
theorem d_Team_delay_6 : decode prog_10_method_5_code 6 = .ok (.iload_n 2, 1) := by decide +kernel
theorem d_Team_delay_7 : decode prog_10_method_5_code 7 = .ok (.iadd, 1) := by decide +kernel
theorem d_Team_delay_8 : decode prog_10_method_5_code 8 = .ok (.putfield 15, 3) := by decide +kernel
theorem d_Team_delay_11 : decode prog_10_method_5_code 11 = .ok (.return_, 1) := by decide +kernel
theorem d_Team_begin_0 : decode prog_10_method_6_code 0 = .ok (.aload_n 0, 1) := by decide +kernel
theorem d_Team_begin_1 : decode prog_10_method_6_code 1 = .ok (.aload_n 1, 1) := by decide +kernel
theorem d_Team_begin_2 : decode prog_10_method_6_code 2 = .ok (.putfield 24, 3) := by decide +kernel
theorem d_Team_begin_5 : decode prog_10_method_6_code 5 = .ok (.aload_n 0, 1) := by decide +kernel
theorem d_Team_begin_6 : decode prog_10_method_6_code 6 = .ok (.iload_n 3, 1) := by decide +kernel
theorem d_Team_begin_7 : decode prog_10_method_6_code 7 = .ok (.aload_n 1, 1) := by decide +kernel
theorem d_Team_begin_8 : decode prog_10_method_6_code 8 = .ok (.invokevirtual 32, 3) := by decide +kernel
theorem d_Team_begin_11 : decode prog_10_method_6_code 11 = .ok (.iadd, 1) := by decide +kernel
theorem d_Team_begin_12 : decode prog_10_method_6_code 12 = .ok (.putfield 15, 3) := by decide +kernel
theorem d_Team_begin_15 : decode prog_10_method_6_code 15 = .ok (.aload_n 1, 1) := by decide +kernel
theorem d_Team_begin_16 : decode prog_10_method_6_code 16 = .ok (.sipush 200, 3) := by decide +kernel
theorem d_Team_begin_19 : decode prog_10_method_6_code 19 = .ok (.iload_n 2, 1) := by decide +kernel
theorem d_Team_begin_20 : decode prog_10_method_6_code 20 = .ok (.iadd, 1) := by decide +kernel
theorem d_Team_begin_21 : decode prog_10_method_6_code 21 = .ok (.iload_n 3, 1) := by decide +kernel
theorem d_Team_begin_22 : decode prog_10_method_6_code 22 = .ok (.invokevirtual 38, 3) := by decide +kernel
theorem d_Team_begin_25 : decode prog_10_method_6_code 25 = .ok (.return_, 1) := by decide +kernel
theorem d_Team_bringOut_0 : decode prog_10_method_7_code 0 = .ok (.aload_n 0, 1) := by decide +kernel
theorem d_Team_bringOut_1 : decode prog_10_method_7_code 1 = .ok (.getfield 24, 3) := by decide +kernel
theorem d_Team_bringOut_4 : decode prog_10_method_7_code 4 = .ok (.ifnull 35, 3) := by decide +kernel
theorem d_Team_bringOut_7 : decode prog_10_method_7_code 7 = .ok (.aload_n 0, 1) := by decide +kernel
theorem d_Team_bringOut_8 : decode prog_10_method_7_code 8 = .ok (.getfield 15, 3) := by decide +kernel
theorem d_Team_bringOut_11 : decode prog_10_method_7_code 11 = .ok (.iload_n 1, 1) := by decide +kernel
theorem d_Team_bringOut_12 : decode prog_10_method_7_code 12 = .ok (.if_icmp .gt 27, 3) := by decide +kernel
theorem d_Team_bringOut_15 : decode prog_10_method_7_code 15 = .ok (.aload_n 0, 1) := by decide +kernel
theorem d_Team_bringOut_16 : decode prog_10_method_7_code 16 = .ok (.getfield 24, 3) := by decide +kernel
theorem d_Team_bringOut_19 : decode prog_10_method_7_code 19 = .ok (.sipush 300, 3) := by decide +kernel
theorem d_Team_bringOut_22 : decode prog_10_method_7_code 22 = .ok (.iload_n 1, 1) := by decide +kernel
theorem d_Team_bringOut_23 : decode prog_10_method_7_code 23 = .ok (.invokevirtual 38, 3) := by decide +kernel
theorem d_Team_bringOut_26 : decode prog_10_method_7_code 26 = .ok (.aload_n 0, 1) := by decide +kernel
theorem d_Team_bringOut_27 : decode prog_10_method_7_code 27 = .ok (.getfield 24, 3) := by decide +kernel
theorem d_Team_bringOut_30 : decode prog_10_method_7_code 30 = .ok (.iconst (-1), 1) := by decide +kernel
theorem d_Team_bringOut_31 : decode prog_10_method_7_code 31 = .ok (.invokevirtual 42, 3) := by decide +kernel
theorem d_Team_bringOut_34 : decode prog_10_method_7_code 34 = .ok (.aload_n 0, 1) := by decide +kernel
theorem d_Team_bringOut_35 : decode prog_10_method_7_code 35 = .ok (.aconst_null, 1) := by decide +kernel
theorem d_Team_bringOut_36 : decode prog_10_method_7_code 36 = .ok (.putfield 24, 3) := by decide +kernel
theorem d_Team_bringOut_39 : decode prog_10_method_7_code 39 = .ok (.return_, 1) := by decide +kernel
theorem d_Thing_init_0 : decode prog_11_method_1_code 0 = .ok (.aload_n 0, 1) := by decide +kernel
theorem d_Thing_init_1 : decode prog_11_method_1_code 1 = .ok (.invokespecial 3, 3) := by decide +kernel
theorem d_Thing_init_4 : decode prog_11_method_1_code 4 = .ok (.aload_n 0, 1) := by decide +kernel
theorem d_Thing_init_5 : decode prog_11_method_1_code 5 = .ok (.iload_n 1, 1) := by decide +kernel
theorem d_Thing_init_6 : decode prog_11_method_1_code 6 = .ok (.putfield 9, 3) := by decide +kernel
theorem d_Thing_init_9 : decode prog_11_method_1_code 9 = .ok (.aload_n 0, 1) := by decide +kernel
theorem d_Thing_init_10 : decode prog_11_method_1_code 10 = .ok (.iload_n 2, 1) := by decide +kernel
theorem d_Thing_init_11 : decode prog_11_method_1_code 11 = .ok (.putfield 15, 3) := by decide +kernel
theorem d_Thing_init_14 : decode prog_11_method_1_code 14 = .ok (.aload_n 0, 1) := by decide +kernel
theorem d_Thing_init_15 : decode prog_11_method_1_code 15 = .ok (.iload_n 3, 1) := by decide +kernel
theorem d_Thing_init_16 : decode prog_11_method_1_code 16 = .ok (.putfield 18, 3) := by decide +kernel
theorem d_Thing_init_19 : decode prog_11_method_1_code 19 = .ok (.aload_n 0, 1) := by decide +kernel
theorem d_Thing_init_20 : decode prog_11_method_1_code 20 = .ok (.iload 4, 2) := by decide +kernel
theorem d_Thing_init_22 : decode prog_11_method_1_code 22 = .ok (.putfield 21, 3) := by decide +kernel
theorem d_Thing_init_25 : decode prog_11_method_1_code 25 = .ok (.aload_n 0, 1) := by decide +kernel
theorem d_Thing_init_26 : decode prog_11_method_1_code 26 = .ok (.iload 5, 2) := by decide +kernel
theorem d_Thing_init_28 : decode prog_11_method_1_code 28 = .ok (.putfield 24, 3) := by decide +kernel
theorem d_Thing_init_31 : decode prog_11_method_1_code 31 = .ok (.aload_n 0, 1) := by decide +kernel
theorem d_Thing_init_32 : decode prog_11_method_1_code 32 = .ok (.iload 6, 2) := by decide +kernel
theorem d_Thing_init_34 : decode prog_11_method_1_code 34 = .ok (.putfield 27, 3) := by decide +kernel
theorem d_Thing_init_37 : decode prog_11_method_1_code 37 = .ok (.aload_n 0, 1) := by decide +kernel
theorem d_Thing_init_38 : decode prog_11_method_1_code 38 = .ok (.bipush 100, 2) := by decide +kernel
theorem d_Thing_init_40 : decode prog_11_method_1_code 40 = .ok (.iload 5, 2) := by decide +kernel
theorem d_Thing_init_42 : decode prog_11_method_1_code 42 = .ok (.iadd, 1) := by decide +kernel
theorem d_Thing_init_43 : decode prog_11_method_1_code 43 = .ok (.putfield 30, 3) := by decide +kernel
theorem d_Thing_init_46 : decode prog_11_method_1_code 46 = .ok (.aload_n 0, 1) := by decide +kernel
theorem d_Thing_init_47 : decode prog_11_method_1_code 47 = .ok (.iconst (-1), 1) := by decide +kernel
theorem d_Thing_init_48 : decode prog_11_method_1_code 48 = .ok (.putfield 33, 3) := by decide +kernel
theorem d_Thing_init_51 : decode prog_11_method_1_code 51 = .ok (.aload_n 0, 1) := by decide +kernel
theorem d_Thing_init_52 : decode prog_11_method_1_code 52 = .ok (.iconst (-1), 1) := by decide +kernel
theorem d_Thing_init_53 : decode prog_11_method_1_code 53 = .ok (.putfield 36, 3) := by decide +kernel
theorem d_Thing_init_56 : decode prog_11_method_1_code 56 = .ok (.aload_n 0, 1) := by decide +kernel
theorem d_Thing_init_57 : decode prog_11_method_1_code 57 = .ok (.bipush 12, 2) := by decide +kernel
theorem d_Thing_init_59 : decode prog_11_method_1_code 59 = .ok (.newarray .int, 2) := by decide +kernel
theorem d_Thing_init_61 : decode prog_11_method_1_code 61 = .ok (.putfield 39, 3) := by decide +kernel
theorem d_Thing_init_64 : decode prog_11_method_1_code 64 = .ok (.aload_n 0, 1) := by decide +kernel
theorem d_Thing_init_65 : decode prog_11_method_1_code 65 = .ok (.bipush 18, 2) := by decide +kernel
theorem d_Thing_init_67 : decode prog_11_method_1_code 67 = .ok (.newarray .int, 2) := by decide +kernel
theorem d_Thing_init_69 : decode prog_11_method_1_code 69 = .ok (.putfield 43, 3) := by decide +kernel
theorem d_Thing_init_72 : decode prog_11_method_1_code 72 = .ok (.return_, 1) := by decide +kernel
theorem d_Thing_number_0 : decode prog_11_method_2_code 0 = .ok (.aload_n 0, 1) := by decide +kernel
theorem d_Thing_number_1 : decode prog_11_method_2_code 1 = .ok (.getfield 9, 3) := by decide +kernel
theorem d_Thing_number_4 : decode prog_11_method_2_code 4 = .ok (.ireturn, 1) := by decide +kernel
theorem d_Thing_kind_0 : decode prog_11_method_3_code 0 = .ok (.aload_n 0, 1) := by decide +kernel
theorem d_Thing_kind_1 : decode prog_11_method_3_code 1 = .ok (.getfield 15, 3) := by decide +kernel
theorem d_Thing_kind_4 : decode prog_11_method_3_code 4 = .ok (.ireturn, 1) := by decide +kernel
theorem d_Thing_worth_0 : decode prog_11_method_4_code 0 = .ok (.aload_n 0, 1) := by decide +kernel
theorem d_Thing_worth_1 : decode prog_11_method_4_code 1 = .ok (.getfield 18, 3) := by decide +kernel
theorem d_Thing_worth_4 : decode prog_11_method_4_code 4 = .ok (.ireturn, 1) := by decide +kernel
theorem d_Thing_hands_0 : decode prog_11_method_5_code 0 = .ok (.aload_n 0, 1) := by decide +kernel
theorem d_Thing_hands_1 : decode prog_11_method_5_code 1 = .ok (.getfield 21, 3) := by decide +kernel
theorem d_Thing_hands_4 : decode prog_11_method_5_code 4 = .ok (.ireturn, 1) := by decide +kernel
theorem d_Thing_room_0 : decode prog_11_method_6_code 0 = .ok (.aload_n 0, 1) := by decide +kernel
theorem d_Thing_room_1 : decode prog_11_method_6_code 1 = .ok (.getfield 24, 3) := by decide +kernel
theorem d_Thing_room_4 : decode prog_11_method_6_code 4 = .ok (.ireturn, 1) := by decide +kernel
theorem d_Thing_pack_0 : decode prog_11_method_7_code 0 = .ok (.aload_n 0, 1) := by decide +kernel
theorem d_Thing_pack_1 : decode prog_11_method_7_code 1 = .ok (.getfield 27, 3) := by decide +kernel
theorem d_Thing_pack_4 : decode prog_11_method_7_code 4 = .ok (.ireturn, 1) := by decide +kernel
theorem d_Thing_where_0 : decode prog_11_method_8_code 0 = .ok (.aload_n 0, 1) := by decide +kernel
theorem d_Thing_where_1 : decode prog_11_method_8_code 1 = .ok (.getfield 30, 3) := by decide +kernel
theorem d_Thing_where_4 : decode prog_11_method_8_code 4 = .ok (.ireturn, 1) := by decide +kernel
theorem d_Thing_isAt_0 : decode prog_11_method_9_code 0 = .ok (.iload_n 1, 1) := by decide +kernel
theorem d_Thing_isAt_1 : decode prog_11_method_9_code 1 = .ok (.aload_n 0, 1) := by decide +kernel
theorem d_Thing_isAt_2 : decode prog_11_method_9_code 2 = .ok (.getfield 30, 3) := by decide +kernel
theorem d_Thing_isAt_5 : decode prog_11_method_9_code 5 = .ok (.if_icmp .gt 18, 3) := by decide +kernel
theorem d_Thing_isAt_8 : decode prog_11_method_9_code 8 = .ok (.aload_n 0, 1) := by decide +kernel
theorem d_Thing_isAt_9 : decode prog_11_method_9_code 9 = .ok (.getfield 30, 3) := by decide +kernel
theorem d_Thing_isAt_12 : decode prog_11_method_9_code 12 = .ok (.iload_n 1, 1) := by decide +kernel
theorem d_Thing_isAt_13 : decode prog_11_method_9_code 13 = .ok (.bipush 100, 2) := by decide +kernel
theorem d_Thing_isAt_15 : decode prog_11_method_9_code 15 = .ok (.iadd, 1) := by decide +kernel
theorem d_Thing_isAt_16 : decode prog_11_method_9_code 16 = .ok (.if_icmp .ge 7, 3) := by decide +kernel
theorem d_Thing_isAt_19 : decode prog_11_method_9_code 19 = .ok (.iconst 1, 1) := by decide +kernel
theorem d_Thing_isAt_20 : decode prog_11_method_9_code 20 = .ok (.goto 4, 3) := by decide +kernel
theorem d_Thing_isAt_23 : decode prog_11_method_9_code 23 = .ok (.iconst 0, 1) := by decide +kernel
theorem d_Thing_isAt_24 : decode prog_11_method_9_code 24 = .ok (.ireturn, 1) := by decide +kernel
theorem d_Thing_isKept_0 : decode prog_11_method_10_code 0 = .ok (.aload_n 0, 1) := by decide +kernel
theorem d_Thing_isKept_1 : decode prog_11_method_10_code 1 = .ok (.sipush 300, 3) := by decide +kernel
theorem d_Thing_isKept_4 : decode prog_11_method_10_code 4 = .ok (.invokevirtual 46, 3) := by decide +kernel
theorem d_Thing_isKept_7 : decode prog_11_method_10_code 7 = .ok (.ifCond .ne 13, 3) := by decide +kernel
theorem d_Thing_isKept_10 : decode prog_11_method_10_code 10 = .ok (.aload_n 0, 1) := by decide +kernel
theorem d_Thing_isKept_11 : decode prog_11_method_10_code 11 = .ok (.sipush 400, 3) := by decide +kernel
theorem d_Thing_isKept_14 : decode prog_11_method_10_code 14 = .ok (.invokevirtual 46, 3) := by decide +kernel
theorem d_Thing_isKept_17 : decode prog_11_method_10_code 17 = .ok (.ifCond .eq 7, 3) := by decide +kernel
theorem d_Thing_isKept_20 : decode prog_11_method_10_code 20 = .ok (.iconst 1, 1) := by decide +kernel
theorem d_Thing_isKept_21 : decode prog_11_method_10_code 21 = .ok (.goto 4, 3) := by decide +kernel
theorem d_Thing_isKept_24 : decode prog_11_method_10_code 24 = .ok (.iconst 0, 1) := by decide +kernel
theorem d_Thing_isKept_25 : decode prog_11_method_10_code 25 = .ok (.ireturn, 1) := by decide +kernel
theorem d_Thing_placeNumber_0 : decode prog_11_method_11_code 0 = .ok (.aload_n 0, 1) := by decide +kernel
theorem d_Thing_placeNumber_1 : decode prog_11_method_11_code 1 = .ok (.sipush 400, 3) := by decide +kernel
theorem d_Thing_placeNumber_4 : decode prog_11_method_11_code 4 = .ok (.invokevirtual 46, 3) := by decide +kernel
theorem d_Thing_placeNumber_7 : decode prog_11_method_11_code 7 = .ok (.ifCond .eq 14, 3) := by decide +kernel
theorem d_Thing_placeNumber_10 : decode prog_11_method_11_code 10 = .ok (.aload_n 0, 1) := by decide +kernel
theorem d_Thing_placeNumber_11 : decode prog_11_method_11_code 11 = .ok (.getfield 30, 3) := by decide +kernel
theorem d_Thing_placeNumber_14 : decode prog_11_method_11_code 14 = .ok (.sipush 400, 3) := by decide +kernel
theorem d_Thing_placeNumber_17 : decode prog_11_method_11_code 17 = .ok (.isub, 1) := by decide +kernel
theorem d_Thing_placeNumber_18 : decode prog_11_method_11_code 18 = .ok (.goto 4, 3) := by decide +kernel
theorem d_Thing_placeNumber_21 : decode prog_11_method_11_code 21 = .ok (.iconst (-1), 1) := by decide +kernel
theorem d_Thing_placeNumber_22 : decode prog_11_method_11_code 22 = .ok (.ireturn, 1) := by decide +kernel
theorem d_Thing_grow_0 : decode prog_11_method_12_code 0 = .ok (.aload_n 0, 1) := by decide +kernel
theorem d_Thing_grow_1 : decode prog_11_method_12_code 1 = .ok (.dup, 1) := by decide +kernel
theorem d_Thing_grow_2 : decode prog_11_method_12_code 2 = .ok (.getfield 50, 3) := by decide +kernel
theorem d_Thing_grow_5 : decode prog_11_method_12_code 5 = .ok (.iload_n 1, 1) := by decide +kernel
theorem d_Thing_grow_6 : decode prog_11_method_12_code 6 = .ok (.iadd, 1) := by decide +kernel
theorem d_Thing_grow_7 : decode prog_11_method_12_code 7 = .ok (.putfield 50, 3) := by decide +kernel
theorem d_Thing_grow_10 : decode prog_11_method_12_code 10 = .ok (.return_, 1) := by decide +kernel
theorem d_Thing_givenTo_0 : decode prog_11_method_13_code 0 = .ok (.aload_n 0, 1) := by decide +kernel
theorem d_Thing_givenTo_1 : decode prog_11_method_13_code 1 = .ok (.getfield 33, 3) := by decide +kernel
theorem d_Thing_givenTo_4 : decode prog_11_method_13_code 4 = .ok (.ireturn, 1) := by decide +kernel
theorem d_Thing_giveTo_0 : decode prog_11_method_14_code 0 = .ok (.aload_n 0, 1) := by decide +kernel
theorem d_Thing_giveTo_1 : decode prog_11_method_14_code 1 = .ok (.iload_n 1, 1) := by decide +kernel
theorem d_Thing_giveTo_2 : decode prog_11_method_14_code 2 = .ok (.putfield 33, 3) := by decide +kernel
theorem d_Thing_giveTo_5 : decode prog_11_method_14_code 5 = .ok (.return_, 1) := by decide +kernel
theorem d_Thing_choice_0 : decode prog_11_method_15_code 0 = .ok (.aload_n 0, 1) := by decide +kernel
theorem d_Thing_choice_1 : decode prog_11_method_15_code 1 = .ok (.getfield 36, 3) := by decide +kernel
theorem d_Thing_choice_4 : decode prog_11_method_15_code 4 = .ok (.ireturn, 1) := by decide +kernel
theorem d_Thing_choose_0 : decode prog_11_method_16_code 0 = .ok (.aload_n 0, 1) := by decide +kernel
theorem d_Thing_choose_1 : decode prog_11_method_16_code 1 = .ok (.iload_n 1, 1) := by decide +kernel
theorem d_Thing_choose_2 : decode prog_11_method_16_code 2 = .ok (.putfield 36, 3) := by decide +kernel
theorem d_Thing_choose_5 : decode prog_11_method_16_code 5 = .ok (.return_, 1) := by decide +kernel
theorem d_Thing_measure_0 : decode prog_11_method_17_code 0 = .ok (.aload_n 0, 1) := by decide +kernel
theorem d_Thing_measure_1 : decode prog_11_method_17_code 1 = .ok (.iload_n 1, 1) := by decide +kernel
theorem d_Thing_measure_2 : decode prog_11_method_17_code 2 = .ok (.putfield 53, 3) := by decide +kernel
theorem d_Thing_measure_5 : decode prog_11_method_17_code 5 = .ok (.aload_n 0, 1) := by decide +kernel
theorem d_Thing_measure_6 : decode prog_11_method_17_code 6 = .ok (.iload_n 2, 1) := by decide +kernel
theorem d_Thing_measure_7 : decode prog_11_method_17_code 7 = .ok (.putfield 56, 3) := by decide +kernel
theorem d_Thing_measure_10 : decode prog_11_method_17_code 10 = .ok (.aload_n 0, 1) := by decide +kernel
theorem d_Thing_measure_11 : decode prog_11_method_17_code 11 = .ok (.iconst (-1), 1) := by decide +kernel
theorem d_Thing_measure_12 : decode prog_11_method_17_code 12 = .ok (.putfield 36, 3) := by decide +kernel
theorem d_Thing_measure_15 : decode prog_11_method_17_code 15 = .ok (.return_, 1) := by decide +kernel
theorem d_Thing_length_0 : decode prog_11_method_18_code 0 = .ok (.aload_n 0, 1) := by decide +kernel
theorem d_Thing_length_1 : decode prog_11_method_18_code 1 = .ok (.getfield 53, 3) := by decide +kernel
theorem d_Thing_length_4 : decode prog_11_method_18_code 4 = .ok (.ireturn, 1) := by decide +kernel
theorem d_Thing_latest_0 : decode prog_11_method_19_code 0 = .ok (.aload_n 0, 1) := by decide +kernel
theorem d_Thing_latest_1 : decode prog_11_method_19_code 1 = .ok (.getfield 56, 3) := by decide +kernel
theorem d_Thing_latest_4 : decode prog_11_method_19_code 4 = .ok (.ireturn, 1) := by decide +kernel
theorem d_Thing_due_0 : decode prog_11_method_20_code 0 = .ok (.aload_n 0, 1) := by decide +kernel
theorem d_Thing_due_1 : decode prog_11_method_20_code 1 = .ok (.getfield 56, 3) := by decide +kernel
theorem d_Thing_due_4 : decode prog_11_method_20_code 4 = .ok (.aload_n 0, 1) := by decide +kernel
theorem d_Thing_due_5 : decode prog_11_method_20_code 5 = .ok (.getfield 53, 3) := by decide +kernel
theorem d_Thing_due_8 : decode prog_11_method_20_code 8 = .ok (.iadd, 1) := by decide +kernel
theorem d_Thing_due_9 : decode prog_11_method_20_code 9 = .ok (.ireturn, 1) := by decide +kernel
theorem d_Thing_rate_0 : decode prog_11_method_21_code 0 = .ok (.aload_n 0, 1) := by decide +kernel
theorem d_Thing_rate_1 : decode prog_11_method_21_code 1 = .ok (.getfield 53, 3) := by decide +kernel
theorem d_Thing_rate_4 : decode prog_11_method_21_code 4 = .ok (.ifCond .le 19, 3) := by decide +kernel
theorem d_Thing_rate_7 : decode prog_11_method_21_code 7 = .ok (.aload_n 0, 1) := by decide +kernel
theorem d_Thing_rate_8 : decode prog_11_method_21_code 8 = .ok (.getfield 18, 3) := by decide +kernel
theorem d_Thing_rate_11 : decode prog_11_method_21_code 11 = .ok (.sipush 1000, 3) := by decide +kernel
theorem d_Thing_rate_14 : decode prog_11_method_21_code 14 = .ok (.imul, 1) := by decide +kernel
theorem d_Thing_rate_15 : decode prog_11_method_21_code 15 = .ok (.aload_n 0, 1) := by decide +kernel
theorem d_Thing_rate_16 : decode prog_11_method_21_code 16 = .ok (.getfield 53, 3) := by decide +kernel
theorem d_Thing_rate_19 : decode prog_11_method_21_code 19 = .ok (.idiv, 1) := by decide +kernel
theorem d_Thing_rate_20 : decode prog_11_method_21_code 20 = .ok (.goto 4, 3) := by decide +kernel
theorem d_Thing_rate_23 : decode prog_11_method_21_code 23 = .ok (.iconst 0, 1) := by decide +kernel
theorem d_Thing_rate_24 : decode prog_11_method_21_code 24 = .ok (.ireturn, 1) := by decide +kernel
theorem d_Thing_goTo_0 : decode prog_11_method_22_code 0 = .ok (.aload_n 0, 1) := by decide +kernel
theorem d_Thing_goTo_1 : decode prog_11_method_22_code 1 = .ok (.getfield 59, 3) := by decide +kernel
theorem d_Thing_goTo_4 : decode prog_11_method_22_code 4 = .ok (.iconst 3, 1) := by decide +kernel
theorem d_Thing_goTo_5 : decode prog_11_method_22_code 5 = .ok (.imul, 1) := by decide +kernel
theorem d_Thing_goTo_6 : decode prog_11_method_22_code 6 = .ok (.istore_n 3, 1) := by decide +kernel
theorem d_Thing_goTo_7 : decode prog_11_method_22_code 7 = .ok (.aload_n 0, 1) := by decide +kernel
theorem d_Thing_goTo_8 : decode prog_11_method_22_code 8 = .ok (.getfield 59, 3) := by decide +kernel
theorem d_Thing_goTo_11 : decode prog_11_method_22_code 11 = .ok (.sipush 1024, 3) := by decide +kernel
theorem d_Thing_goTo_14 : decode prog_11_method_22_code 14 = .ok (.if_icmp .ge 8, 3) := by decide +kernel
theorem d_Thing_goTo_17 : decode prog_11_method_22_code 17 = .ok (.aload_n 0, 1) := by decide +kernel
theorem d_Thing_goTo_18 : decode prog_11_method_22_code 18 = .ok (.iload_n 3, 1) := by decide +kernel
theorem d_Thing_goTo_19 : decode prog_11_method_22_code 19 = .ok (.invokevirtual 62, 3) := by decide +kernel
theorem d_Thing_goTo_22 : decode prog_11_method_22_code 22 = .ok (.iload_n 3, 1) := by decide +kernel
theorem d_Thing_goTo_23 : decode prog_11_method_22_code 23 = .ok (.iconst 3, 1) := by decide +kernel
theorem d_Thing_goTo_24 : decode prog_11_method_22_code 24 = .ok (.iadd, 1) := by decide +kernel
theorem d_Thing_goTo_25 : decode prog_11_method_22_code 25 = .ok (.aload_n 0, 1) := by decide +kernel
theorem d_Thing_goTo_26 : decode prog_11_method_22_code 26 = .ok (.getfield 39, 3) := by decide +kernel
theorem d_Thing_goTo_29 : decode prog_11_method_22_code 29 = .ok (.arraylength, 1) := by decide +kernel
theorem d_Thing_goTo_30 : decode prog_11_method_22_code 30 = .ok (.if_icmp .gt 41, 3) := by decide +kernel
theorem d_Thing_goTo_33 : decode prog_11_method_22_code 33 = .ok (.aload_n 0, 1) := by decide +kernel
theorem d_Thing_goTo_34 : decode prog_11_method_22_code 34 = .ok (.getfield 39, 3) := by decide +kernel
theorem d_Thing_goTo_37 : decode prog_11_method_22_code 37 = .ok (.iload_n 3, 1) := by decide +kernel
theorem d_Thing_goTo_38 : decode prog_11_method_22_code 38 = .ok (.iload_n 2, 1) := by decide +kernel
theorem d_Thing_goTo_39 : decode prog_11_method_22_code 39 = .ok (.iastore, 1) := by decide +kernel
theorem d_Thing_goTo_40 : decode prog_11_method_22_code 40 = .ok (.aload_n 0, 1) := by decide +kernel
theorem d_Thing_goTo_41 : decode prog_11_method_22_code 41 = .ok (.getfield 39, 3) := by decide +kernel
theorem d_Thing_goTo_44 : decode prog_11_method_22_code 44 = .ok (.iload_n 3, 1) := by decide +kernel
theorem d_Thing_goTo_45 : decode prog_11_method_22_code 45 = .ok (.iconst 1, 1) := by decide +kernel
theorem d_Thing_goTo_46 : decode prog_11_method_22_code 46 = .ok (.iadd, 1) := by decide +kernel
theorem d_Thing_goTo_47 : decode prog_11_method_22_code 47 = .ok (.aload_n 0, 1) := by decide +kernel
theorem d_Thing_goTo_48 : decode prog_11_method_22_code 48 = .ok (.getfield 30, 3) := by decide +kernel
theorem d_Thing_goTo_51 : decode prog_11_method_22_code 51 = .ok (.iastore, 1) := by decide +kernel
theorem d_Thing_goTo_52 : decode prog_11_method_22_code 52 = .ok (.aload_n 0, 1) := by decide +kernel
theorem d_Thing_goTo_53 : decode prog_11_method_22_code 53 = .ok (.getfield 39, 3) := by decide +kernel
theorem d_Thing_goTo_56 : decode prog_11_method_22_code 56 = .ok (.iload_n 3, 1) := by decide +kernel
theorem d_Thing_goTo_57 : decode prog_11_method_22_code 57 = .ok (.iconst 2, 1) := by decide +kernel
theorem d_Thing_goTo_58 : decode prog_11_method_22_code 58 = .ok (.iadd, 1) := by decide +kernel
theorem d_Thing_goTo_59 : decode prog_11_method_22_code 59 = .ok (.iload_n 1, 1) := by decide +kernel
theorem d_Thing_goTo_60 : decode prog_11_method_22_code 60 = .ok (.iastore, 1) := by decide +kernel
theorem d_Thing_goTo_61 : decode prog_11_method_22_code 61 = .ok (.aload_n 0, 1) := by decide +kernel
theorem d_Thing_goTo_62 : decode prog_11_method_22_code 62 = .ok (.dup, 1) := by decide +kernel
theorem d_Thing_goTo_63 : decode prog_11_method_22_code 63 = .ok (.getfield 59, 3) := by decide +kernel
theorem d_Thing_goTo_66 : decode prog_11_method_22_code 66 = .ok (.iconst 1, 1) := by decide +kernel
theorem d_Thing_goTo_67 : decode prog_11_method_22_code 67 = .ok (.iadd, 1) := by decide +kernel
theorem d_Thing_goTo_68 : decode prog_11_method_22_code 68 = .ok (.putfield 59, 3) := by decide +kernel
theorem d_Thing_goTo_71 : decode prog_11_method_22_code 71 = .ok (.aload_n 0, 1) := by decide +kernel
theorem d_Thing_goTo_72 : decode prog_11_method_22_code 72 = .ok (.iload_n 1, 1) := by decide +kernel
theorem d_Thing_goTo_73 : decode prog_11_method_22_code 73 = .ok (.putfield 30, 3) := by decide +kernel
theorem d_Thing_goTo_76 : decode prog_11_method_22_code 76 = .ok (.return_, 1) := by decide +kernel
theorem d_Thing_makeRoomAt_0 : decode prog_11_method_23_code 0 = .ok (.iload_n 1, 1) := by decide +kernel
theorem d_Thing_makeRoomAt_1 : decode prog_11_method_23_code 1 = .ok (.iconst 3, 1) := by decide +kernel
theorem d_Thing_makeRoomAt_2 : decode prog_11_method_23_code 2 = .ok (.iadd, 1) := by decide +kernel
theorem d_Thing_makeRoomAt_3 : decode prog_11_method_23_code 3 = .ok (.aload_n 0, 1) := by decide +kernel
theorem d_Thing_makeRoomAt_4 : decode prog_11_method_23_code 4 = .ok (.getfield 39, 3) := by decide +kernel
theorem d_Thing_makeRoomAt_7 : decode prog_11_method_23_code 7 = .ok (.arraylength, 1) := by decide +kernel
theorem d_Thing_makeRoomAt_8 : decode prog_11_method_23_code 8 = .ok (.if_icmp .le 21, 3) := by decide +kernel
theorem d_Thing_makeRoomAt_11 : decode prog_11_method_23_code 11 = .ok (.aload_n 0, 1) := by decide +kernel
theorem d_Thing_makeRoomAt_12 : decode prog_11_method_23_code 12 = .ok (.aload_n 0, 1) := by decide +kernel
theorem d_Thing_makeRoomAt_13 : decode prog_11_method_23_code 13 = .ok (.getfield 39, 3) := by decide +kernel
theorem d_Thing_makeRoomAt_16 : decode prog_11_method_23_code 16 = .ok (.aload_n 0, 1) := by decide +kernel
theorem d_Thing_makeRoomAt_17 : decode prog_11_method_23_code 17 = .ok (.getfield 39, 3) := by decide +kernel
theorem d_Thing_makeRoomAt_20 : decode prog_11_method_23_code 20 = .ok (.arraylength, 1) := by decide +kernel
theorem d_Thing_makeRoomAt_21 : decode prog_11_method_23_code 21 = .ok (.iconst 2, 1) := by decide +kernel
theorem d_Thing_makeRoomAt_22 : decode prog_11_method_23_code 22 = .ok (.imul, 1) := by decide +kernel
theorem d_Thing_makeRoomAt_23 : decode prog_11_method_23_code 23 = .ok (.invokestatic 66, 3) := by decide +kernel
theorem d_Thing_makeRoomAt_26 : decode prog_11_method_23_code 26 = .ok (.putfield 39, 3) := by decide +kernel
theorem d_Thing_makeRoomAt_29 : decode prog_11_method_23_code 29 = .ok (.return_, 1) := by decide +kernel
theorem d_Thing_tellSeal_0 : decode prog_11_method_24_code 0 = .ok (.iload_n 1, 1) := by decide +kernel
theorem d_Thing_tellSeal_1 : decode prog_11_method_24_code 1 = .ok (.iconst 0, 1) := by decide +kernel
theorem d_Thing_tellSeal_2 : decode prog_11_method_24_code 2 = .ok (.aload_n 0, 1) := by decide +kernel
theorem d_Thing_tellSeal_3 : decode prog_11_method_24_code 3 = .ok (.getfield 59, 3) := by decide +kernel
theorem d_Thing_tellSeal_6 : decode prog_11_method_24_code 6 = .ok (.iconst 1, 1) := by decide +kernel
theorem d_Thing_tellSeal_7 : decode prog_11_method_24_code 7 = .ok (.isub, 1) := by decide +kernel
theorem d_Thing_tellSeal_8 : decode prog_11_method_24_code 8 = .ok (.invokestatic 72, 3) := by decide +kernel
theorem d_Thing_tellSeal_11 : decode prog_11_method_24_code 11 = .ok (.ifCond .eq 16, 3) := by decide +kernel
theorem d_Thing_tellSeal_14 : decode prog_11_method_24_code 14 = .ok (.iload_n 2, 1) := by decide +kernel
theorem d_Thing_tellSeal_15 : decode prog_11_method_24_code 15 = .ok (.iconst 0, 1) := by decide +kernel
theorem d_Thing_tellSeal_16 : decode prog_11_method_24_code 16 = .ok (.iconst 2, 1) := by decide +kernel
theorem d_Thing_tellSeal_17 : decode prog_11_method_24_code 17 = .ok (.invokestatic 72, 3) := by decide +kernel
theorem d_Thing_tellSeal_20 : decode prog_11_method_24_code 20 = .ok (.ifCond .eq 7, 3) := by decide +kernel
theorem d_Thing_tellSeal_23 : decode prog_11_method_24_code 23 = .ok (.iconst 1, 1) := by decide +kernel
theorem d_Thing_tellSeal_24 : decode prog_11_method_24_code 24 = .ok (.goto 4, 3) := by decide +kernel
theorem d_Thing_tellSeal_27 : decode prog_11_method_24_code 27 = .ok (.iconst 0, 1) := by decide +kernel
theorem d_Thing_tellSeal_28 : decode prog_11_method_24_code 28 = .ok (.istore_n 3, 1) := by decide +kernel
theorem d_Thing_tellSeal_29 : decode prog_11_method_24_code 29 = .ok (.iload_n 3, 1) := by decide +kernel
theorem d_Thing_tellSeal_30 : decode prog_11_method_24_code 30 = .ok (.ifCond .eq 11, 3) := by decide +kernel
theorem d_Thing_tellSeal_33 : decode prog_11_method_24_code 33 = .ok (.iload_n 1, 1) := by decide +kernel
theorem d_Thing_tellSeal_34 : decode prog_11_method_24_code 34 = .ok (.iconst 3, 1) := by decide +kernel
theorem d_Thing_tellSeal_35 : decode prog_11_method_24_code 35 = .ok (.imul, 1) := by decide +kernel
theorem d_Thing_tellSeal_36 : decode prog_11_method_24_code 36 = .ok (.iload_n 2, 1) := by decide +kernel
theorem d_Thing_tellSeal_37 : decode prog_11_method_24_code 37 = .ok (.iadd, 1) := by decide +kernel
theorem d_Thing_tellSeal_38 : decode prog_11_method_24_code 38 = .ok (.goto 4, 3) := by decide +kernel
theorem d_Thing_tellSeal_41 : decode prog_11_method_24_code 41 = .ok (.iconst (-1), 1) := by decide +kernel
theorem d_Thing_tellSeal_42 : decode prog_11_method_24_code 42 = .ok (.istore 4, 2) := by decide +kernel
theorem d_Thing_tellSeal_44 : decode prog_11_method_24_code 44 = .ok (.iload 4, 2) := by decide +kernel
theorem d_Thing_tellSeal_46 : decode prog_11_method_24_code 46 = .ok (.iconst 0, 1) := by decide +kernel
theorem d_Thing_tellSeal_47 : decode prog_11_method_24_code 47 = .ok (.aload_n 0, 1) := by decide +kernel
theorem d_Thing_tellSeal_48 : decode prog_11_method_24_code 48 = .ok (.getfield 39, 3) := by decide +kernel
theorem d_Thing_tellSeal_51 : decode prog_11_method_24_code 51 = .ok (.arraylength, 1) := by decide +kernel
theorem d_Thing_tellSeal_52 : decode prog_11_method_24_code 52 = .ok (.iconst 1, 1) := by decide +kernel
theorem d_Thing_tellSeal_53 : decode prog_11_method_24_code 53 = .ok (.isub, 1) := by decide +kernel
theorem d_Thing_tellSeal_54 : decode prog_11_method_24_code 54 = .ok (.invokestatic 72, 3) := by decide +kernel
theorem d_Thing_tellSeal_57 : decode prog_11_method_24_code 57 = .ok (.ifCond .eq 13, 3) := by decide +kernel
theorem d_Thing_tellSeal_60 : decode prog_11_method_24_code 60 = .ok (.aload_n 0, 1) := by decide +kernel
theorem d_Thing_tellSeal_61 : decode prog_11_method_24_code 61 = .ok (.getfield 39, 3) := by decide +kernel
theorem d_Thing_tellSeal_64 : decode prog_11_method_24_code 64 = .ok (.iload 4, 2) := by decide +kernel
theorem d_Thing_tellSeal_66 : decode prog_11_method_24_code 66 = .ok (.iaload, 1) := by decide +kernel
theorem d_Thing_tellSeal_67 : decode prog_11_method_24_code 67 = .ok (.goto 4, 3) := by decide +kernel
theorem d_Thing_tellSeal_70 : decode prog_11_method_24_code 70 = .ok (.iconst (-1), 1) := by decide +kernel
theorem d_Thing_tellSeal_71 : decode prog_11_method_24_code 71 = .ok (.ireturn, 1) := by decide +kernel
theorem d_Thing_paperCount_0 : decode prog_11_method_25_code 0 = .ok (.aload_n 0, 1) := by decide +kernel
theorem d_Thing_paperCount_1 : decode prog_11_method_25_code 1 = .ok (.getfield 76, 3) := by decide +kernel
theorem d_Thing_paperCount_4 : decode prog_11_method_25_code 4 = .ok (.ireturn, 1) := by decide +kernel
theorem d_Thing_addPaper_0 : decode prog_11_method_26_code 0 = .ok (.aload_n 0, 1) := by decide +kernel
theorem d_Thing_addPaper_1 : decode prog_11_method_26_code 1 = .ok (.getfield 76, 3) := by decide +kernel
theorem d_Thing_addPaper_4 : decode prog_11_method_26_code 4 = .ok (.iconst 3, 1) := by decide +kernel
theorem d_Thing_addPaper_5 : decode prog_11_method_26_code 5 = .ok (.imul, 1) := by decide +kernel
theorem d_Thing_addPaper_6 : decode prog_11_method_26_code 6 = .ok (.istore 4, 2) := by decide +kernel
theorem d_Thing_addPaper_8 : decode prog_11_method_26_code 8 = .ok (.iload 4, 2) := by decide +kernel
theorem d_Thing_addPaper_10 : decode prog_11_method_26_code 10 = .ok (.iconst 3, 1) := by decide +kernel
theorem d_Thing_addPaper_11 : decode prog_11_method_26_code 11 = .ok (.iadd, 1) := by decide +kernel
theorem d_Thing_addPaper_12 : decode prog_11_method_26_code 12 = .ok (.aload_n 0, 1) := by decide +kernel
theorem d_Thing_addPaper_13 : decode prog_11_method_26_code 13 = .ok (.getfield 43, 3) := by decide +kernel
theorem d_Thing_addPaper_16 : decode prog_11_method_26_code 16 = .ok (.arraylength, 1) := by decide +kernel
theorem d_Thing_addPaper_17 : decode prog_11_method_26_code 17 = .ok (.if_icmp .gt 41, 3) := by decide +kernel
theorem d_Thing_addPaper_20 : decode prog_11_method_26_code 20 = .ok (.aload_n 0, 1) := by decide +kernel
theorem d_Thing_addPaper_21 : decode prog_11_method_26_code 21 = .ok (.getfield 43, 3) := by decide +kernel
theorem d_Thing_addPaper_24 : decode prog_11_method_26_code 24 = .ok (.iload 4, 2) := by decide +kernel
theorem d_Thing_addPaper_26 : decode prog_11_method_26_code 26 = .ok (.iload_n 1, 1) := by decide +kernel
theorem d_Thing_addPaper_27 : decode prog_11_method_26_code 27 = .ok (.iastore, 1) := by decide +kernel
theorem d_Thing_addPaper_28 : decode prog_11_method_26_code 28 = .ok (.aload_n 0, 1) := by decide +kernel
theorem d_Thing_addPaper_29 : decode prog_11_method_26_code 29 = .ok (.getfield 43, 3) := by decide +kernel
theorem d_Thing_addPaper_32 : decode prog_11_method_26_code 32 = .ok (.iload 4, 2) := by decide +kernel
theorem d_Thing_addPaper_34 : decode prog_11_method_26_code 34 = .ok (.iconst 1, 1) := by decide +kernel
theorem d_Thing_addPaper_35 : decode prog_11_method_26_code 35 = .ok (.iadd, 1) := by decide +kernel
theorem d_Thing_addPaper_36 : decode prog_11_method_26_code 36 = .ok (.iload_n 2, 1) := by decide +kernel
theorem d_Thing_addPaper_37 : decode prog_11_method_26_code 37 = .ok (.iastore, 1) := by decide +kernel
theorem d_Thing_addPaper_38 : decode prog_11_method_26_code 38 = .ok (.aload_n 0, 1) := by decide +kernel
theorem d_Thing_addPaper_39 : decode prog_11_method_26_code 39 = .ok (.getfield 43, 3) := by decide +kernel
theorem d_Thing_addPaper_42 : decode prog_11_method_26_code 42 = .ok (.iload 4, 2) := by decide +kernel
theorem d_Thing_addPaper_44 : decode prog_11_method_26_code 44 = .ok (.iconst 2, 1) := by decide +kernel
theorem d_Thing_addPaper_45 : decode prog_11_method_26_code 45 = .ok (.iadd, 1) := by decide +kernel
theorem d_Thing_addPaper_46 : decode prog_11_method_26_code 46 = .ok (.iload_n 3, 1) := by decide +kernel
theorem d_Thing_addPaper_47 : decode prog_11_method_26_code 47 = .ok (.iastore, 1) := by decide +kernel
theorem d_Thing_addPaper_48 : decode prog_11_method_26_code 48 = .ok (.aload_n 0, 1) := by decide +kernel
theorem d_Thing_addPaper_49 : decode prog_11_method_26_code 49 = .ok (.dup, 1) := by decide +kernel
theorem d_Thing_addPaper_50 : decode prog_11_method_26_code 50 = .ok (.getfield 76, 3) := by decide +kernel
theorem d_Thing_addPaper_53 : decode prog_11_method_26_code 53 = .ok (.iconst 1, 1) := by decide +kernel
theorem d_Thing_addPaper_54 : decode prog_11_method_26_code 54 = .ok (.iadd, 1) := by decide +kernel
theorem d_Thing_addPaper_55 : decode prog_11_method_26_code 55 = .ok (.putfield 76, 3) := by decide +kernel
theorem d_Thing_addPaper_58 : decode prog_11_method_26_code 58 = .ok (.aload_n 0, 1) := by decide +kernel
theorem d_Thing_addPaper_59 : decode prog_11_method_26_code 59 = .ok (.getfield 76, 3) := by decide +kernel
theorem d_Thing_addPaper_62 : decode prog_11_method_26_code 62 = .ok (.ireturn, 1) := by decide +kernel
theorem d_Thing_holderIn_0 : decode prog_11_method_27_code 0 = .ok (.iconst (-1), 1) := by decide +kernel
theorem d_Thing_holderIn_1 : decode prog_11_method_27_code 1 = .ok (.istore_n 2, 1) := by decide +kernel
theorem d_Thing_holderIn_2 : decode prog_11_method_27_code 2 = .ok (.iconst 0, 1) := by decide +kernel
theorem d_Thing_holderIn_3 : decode prog_11_method_27_code 3 = .ok (.istore_n 3, 1) := by decide +kernel
theorem d_Thing_holderIn_4 : decode prog_11_method_27_code 4 = .ok (.iload_n 3, 1) := by decide +kernel
theorem d_Thing_holderIn_5 : decode prog_11_method_27_code 5 = .ok (.iconst 3, 1) := by decide +kernel
theorem d_Thing_holderIn_6 : decode prog_11_method_27_code 6 = .ok (.iadd, 1) := by decide +kernel
theorem d_Thing_holderIn_7 : decode prog_11_method_27_code 7 = .ok (.aload_n 0, 1) := by decide +kernel
theorem d_Thing_holderIn_8 : decode prog_11_method_27_code 8 = .ok (.getfield 43, 3) := by decide +kernel
theorem d_Thing_holderIn_11 : decode prog_11_method_27_code 11 = .ok (.arraylength, 1) := by decide +kernel
theorem d_Thing_holderIn_12 : decode prog_11_method_27_code 12 = .ok (.if_icmp .gt 69, 3) := by decide +kernel
theorem d_Thing_holderIn_15 : decode prog_11_method_27_code 15 = .ok (.iload_n 3, 1) := by decide +kernel
theorem d_Thing_holderIn_16 : decode prog_11_method_27_code 16 = .ok (.aload_n 0, 1) := by decide +kernel
theorem d_Thing_holderIn_17 : decode prog_11_method_27_code 17 = .ok (.getfield 76, 3) := by decide +kernel
theorem d_Thing_holderIn_20 : decode prog_11_method_27_code 20 = .ok (.iconst 3, 1) := by decide +kernel
theorem d_Thing_holderIn_21 : decode prog_11_method_27_code 21 = .ok (.imul, 1) := by decide +kernel
theorem d_Thing_holderIn_22 : decode prog_11_method_27_code 22 = .ok (.if_icmp .ge 59, 3) := by decide +kernel
theorem d_Thing_holderIn_25 : decode prog_11_method_27_code 25 = .ok (.iload_n 1, 1) := by decide +kernel
theorem d_Thing_holderIn_26 : decode prog_11_method_27_code 26 = .ok (.aload_n 0, 1) := by decide +kernel
theorem d_Thing_holderIn_27 : decode prog_11_method_27_code 27 = .ok (.getfield 43, 3) := by decide +kernel
theorem d_Thing_holderIn_30 : decode prog_11_method_27_code 30 = .ok (.iload_n 3, 1) := by decide +kernel
theorem d_Thing_holderIn_31 : decode prog_11_method_27_code 31 = .ok (.iconst 1, 1) := by decide +kernel
theorem d_Thing_holderIn_32 : decode prog_11_method_27_code 32 = .ok (.iadd, 1) := by decide +kernel
theorem d_Thing_holderIn_33 : decode prog_11_method_27_code 33 = .ok (.iaload, 1) := by decide +kernel
theorem d_Thing_holderIn_34 : decode prog_11_method_27_code 34 = .ok (.aload_n 0, 1) := by decide +kernel
theorem d_Thing_holderIn_35 : decode prog_11_method_27_code 35 = .ok (.getfield 43, 3) := by decide +kernel
theorem d_Thing_holderIn_38 : decode prog_11_method_27_code 38 = .ok (.iload_n 3, 1) := by decide +kernel
theorem d_Thing_holderIn_39 : decode prog_11_method_27_code 39 = .ok (.iconst 2, 1) := by decide +kernel
theorem d_Thing_holderIn_40 : decode prog_11_method_27_code 40 = .ok (.iadd, 1) := by decide +kernel
theorem d_Thing_holderIn_41 : decode prog_11_method_27_code 41 = .ok (.iaload, 1) := by decide +kernel
theorem d_Thing_holderIn_42 : decode prog_11_method_27_code 42 = .ok (.invokestatic 72, 3) := by decide +kernel
theorem d_Thing_holderIn_45 : decode prog_11_method_27_code 45 = .ok (.ifCond .eq 30, 3) := by decide +kernel
theorem d_Thing_holderIn_48 : decode prog_11_method_27_code 48 = .ok (.iload_n 2, 1) := by decide +kernel
theorem d_Thing_holderIn_49 : decode prog_11_method_27_code 49 = .ok (.iconst (-1), 1) := by decide +kernel
theorem d_Thing_holderIn_50 : decode prog_11_method_27_code 50 = .ok (.if_icmp .eq 13, 3) := by decide +kernel
theorem d_Thing_holderIn_53 : decode prog_11_method_27_code 53 = .ok (.iload_n 2, 1) := by decide +kernel
theorem d_Thing_holderIn_54 : decode prog_11_method_27_code 54 = .ok (.aload_n 0, 1) := by decide +kernel
theorem d_Thing_holderIn_55 : decode prog_11_method_27_code 55 = .ok (.getfield 43, 3) := by decide +kernel
theorem d_Thing_holderIn_58 : decode prog_11_method_27_code 58 = .ok (.iload_n 3, 1) := by decide +kernel
theorem d_Thing_holderIn_59 : decode prog_11_method_27_code 59 = .ok (.iaload, 1) := by decide +kernel
theorem d_Thing_holderIn_60 : decode prog_11_method_27_code 60 = .ok (.if_icmp .ne 12, 3) := by decide +kernel
theorem d_Thing_holderIn_63 : decode prog_11_method_27_code 63 = .ok (.aload_n 0, 1) := by decide +kernel
theorem d_Thing_holderIn_64 : decode prog_11_method_27_code 64 = .ok (.getfield 43, 3) := by decide +kernel
theorem d_Thing_holderIn_67 : decode prog_11_method_27_code 67 = .ok (.iload_n 3, 1) := by decide +kernel
theorem d_Thing_holderIn_68 : decode prog_11_method_27_code 68 = .ok (.iaload, 1) := by decide +kernel
theorem d_Thing_holderIn_69 : decode prog_11_method_27_code 69 = .ok (.goto 5, 3) := by decide +kernel
theorem d_Thing_holderIn_72 : decode prog_11_method_27_code 72 = .ok (.bipush 100, 2) := by decide +kernel
theorem d_Thing_holderIn_74 : decode prog_11_method_27_code 74 = .ok (.istore_n 2, 1) := by decide +kernel
theorem d_Thing_holderIn_75 : decode prog_11_method_27_code 75 = .ok (.iinc 3 3, 3) := by decide +kernel
theorem d_Thing_holderIn_78 : decode prog_11_method_27_code 78 = .ok (.goto (-74), 3) := by decide +kernel
theorem d_Thing_holderIn_81 : decode prog_11_method_27_code 81 = .ok (.iload_n 2, 1) := by decide +kernel
theorem d_Thing_holderIn_82 : decode prog_11_method_27_code 82 = .ok (.ireturn, 1) := by decide +kernel
theorem d_Thing_tell_0 : decode prog_11_method_28_code 0 = .ok (.iload_n 1, 1) := by decide +kernel
theorem d_Thing_tell_1 : decode prog_11_method_28_code 1 = .ok (.tableswitch 87 0 7 #[47, 52, 57, 62, 67, 72, 77, 82], 47) := by decide +kernel
theorem d_Thing_tell_48 : decode prog_11_method_28_code 48 = .ok (.aload_n 0, 1) := by decide +kernel
theorem d_Thing_tell_49 : decode prog_11_method_28_code 49 = .ok (.getfield 30, 3) := by decide +kernel
theorem d_Thing_tell_52 : decode prog_11_method_28_code 52 = .ok (.ireturn, 1) := by decide +kernel
theorem d_Thing_tell_53 : decode prog_11_method_28_code 53 = .ok (.aload_n 0, 1) := by decide +kernel
theorem d_Thing_tell_54 : decode prog_11_method_28_code 54 = .ok (.getfield 15, 3) := by decide +kernel
theorem d_Thing_tell_57 : decode prog_11_method_28_code 57 = .ok (.ireturn, 1) := by decide +kernel
theorem d_Thing_tell_58 : decode prog_11_method_28_code 58 = .ok (.aload_n 0, 1) := by decide +kernel
theorem d_Thing_tell_59 : decode prog_11_method_28_code 59 = .ok (.getfield 18, 3) := by decide +kernel
theorem d_Thing_tell_62 : decode prog_11_method_28_code 62 = .ok (.ireturn, 1) := by decide +kernel
theorem d_Thing_tell_63 : decode prog_11_method_28_code 63 = .ok (.aload_n 0, 1) := by decide +kernel
theorem d_Thing_tell_64 : decode prog_11_method_28_code 64 = .ok (.getfield 21, 3) := by decide +kernel
theorem d_Thing_tell_67 : decode prog_11_method_28_code 67 = .ok (.ireturn, 1) := by decide +kernel
theorem d_Thing_tell_68 : decode prog_11_method_28_code 68 = .ok (.aload_n 0, 1) := by decide +kernel
theorem d_Thing_tell_69 : decode prog_11_method_28_code 69 = .ok (.getfield 27, 3) := by decide +kernel
theorem d_Thing_tell_72 : decode prog_11_method_28_code 72 = .ok (.ireturn, 1) := by decide +kernel
theorem d_Thing_tell_73 : decode prog_11_method_28_code 73 = .ok (.aload_n 0, 1) := by decide +kernel
theorem d_Thing_tell_74 : decode prog_11_method_28_code 74 = .ok (.getfield 50, 3) := by decide +kernel
theorem d_Thing_tell_77 : decode prog_11_method_28_code 77 = .ok (.ireturn, 1) := by decide +kernel
theorem d_Thing_tell_78 : decode prog_11_method_28_code 78 = .ok (.aload_n 0, 1) := by decide +kernel
theorem d_Thing_tell_79 : decode prog_11_method_28_code 79 = .ok (.getfield 59, 3) := by decide +kernel
theorem d_Thing_tell_82 : decode prog_11_method_28_code 82 = .ok (.ireturn, 1) := by decide +kernel
theorem d_Thing_tell_83 : decode prog_11_method_28_code 83 = .ok (.aload_n 0, 1) := by decide +kernel
theorem d_Thing_tell_84 : decode prog_11_method_28_code 84 = .ok (.getfield 76, 3) := by decide +kernel
theorem d_Thing_tell_87 : decode prog_11_method_28_code 87 = .ok (.ireturn, 1) := by decide +kernel
theorem d_Thing_tell_88 : decode prog_11_method_28_code 88 = .ok (.iconst (-1), 1) := by decide +kernel
theorem d_Thing_tell_89 : decode prog_11_method_28_code 89 = .ok (.ireturn, 1) := by decide +kernel
theorem d_Years_init_0 : decode prog_12_method_1_code 0 = .ok (.aload_n 0, 1) := by decide +kernel
theorem d_Years_init_1 : decode prog_12_method_1_code 1 = .ok (.invokespecial 3, 3) := by decide +kernel
theorem d_Years_init_4 : decode prog_12_method_1_code 4 = .ok (.aload_n 0, 1) := by decide +kernel
theorem d_Years_init_5 : decode prog_12_method_1_code 5 = .ok (.aload_n 1, 1) := by decide +kernel
theorem d_Years_init_6 : decode prog_12_method_1_code 6 = .ok (.putfield 9, 3) := by decide +kernel
theorem d_Years_init_9 : decode prog_12_method_1_code 9 = .ok (.aload_n 0, 1) := by decide +kernel
theorem d_Years_init_10 : decode prog_12_method_1_code 10 = .ok (.new 15, 3) := by decide +kernel
theorem d_Years_init_13 : decode prog_12_method_1_code 13 = .ok (.dup, 1) := by decide +kernel
theorem d_Years_init_14 : decode prog_12_method_1_code 14 = .ok (.invokespecial 17, 3) := by decide +kernel
theorem d_Years_init_17 : decode prog_12_method_1_code 17 = .ok (.putfield 18, 3) := by decide +kernel
theorem d_Years_init_20 : decode prog_12_method_1_code 20 = .ok (.aload_n 0, 1) := by decide +kernel
theorem d_Years_init_21 : decode prog_12_method_1_code 21 = .ok (.iconst 4, 1) := by decide +kernel
theorem d_Years_init_22 : decode prog_12_method_1_code 22 = .ok (.newarray .int, 2) := by decide +kernel
theorem d_Years_init_24 : decode prog_12_method_1_code 24 = .ok (.putfield 21, 3) := by decide +kernel
theorem d_Years_init_27 : decode prog_12_method_1_code 27 = .ok (.aload_n 0, 1) := by decide +kernel
theorem d_Years_init_28 : decode prog_12_method_1_code 28 = .ok (.iconst 4, 1) := by decide +kernel
theorem d_Years_init_29 : decode prog_12_method_1_code 29 = .ok (.newarray .int, 2) := by decide +kernel
theorem d_Years_init_31 : decode prog_12_method_1_code 31 = .ok (.putfield 25, 3) := by decide +kernel
theorem d_Years_init_34 : decode prog_12_method_1_code 34 = .ok (.aload_n 0, 1) := by decide +kernel
theorem d_Years_init_35 : decode prog_12_method_1_code 35 = .ok (.getfield 25, 3) := by decide +kernel
theorem d_Years_init_38 : decode prog_12_method_1_code 38 = .ok (.bipush 100, 2) := by decide +kernel
theorem d_Years_init_40 : decode prog_12_method_1_code 40 = .ok (.invokestatic 28, 3) := by decide +kernel
theorem d_Years_init_43 : decode prog_12_method_1_code 43 = .ok (.aload_n 0, 1) := by decide +kernel
theorem d_Years_init_44 : decode prog_12_method_1_code 44 = .ok (.iconst 4, 1) := by decide +kernel
theorem d_Years_init_45 : decode prog_12_method_1_code 45 = .ok (.newarray .int, 2) := by decide +kernel
theorem d_Years_init_47 : decode prog_12_method_1_code 47 = .ok (.putfield 34, 3) := by decide +kernel
theorem d_Years_init_50 : decode prog_12_method_1_code 50 = .ok (.return_, 1) := by decide +kernel
theorem d_Years_placeCount_0 : decode prog_12_method_2_code 0 = .ok (.aload_n 0, 1) := by decide +kernel
theorem d_Years_placeCount_1 : decode prog_12_method_2_code 1 = .ok (.getfield 18, 3) := by decide +kernel
theorem d_Years_placeCount_4 : decode prog_12_method_2_code 4 = .ok (.invokevirtual 37, 3) := by decide +kernel
theorem d_Years_placeCount_7 : decode prog_12_method_2_code 7 = .ok (.ireturn, 1) := by decide +kernel
theorem d_Years_addPlace_0 : decode prog_12_method_3_code 0 = .ok (.aload_n 0, 1) := by decide +kernel
theorem d_Years_addPlace_1 : decode prog_12_method_3_code 1 = .ok (.getfield 18, 3) := by decide +kernel
theorem d_Years_addPlace_4 : decode prog_12_method_3_code 4 = .ok (.new 41, 3) := by decide +kernel
theorem d_Years_addPlace_7 : decode prog_12_method_3_code 7 = .ok (.dup, 1) := by decide +kernel
theorem d_Years_addPlace_8 : decode prog_12_method_3_code 8 = .ok (.iload_n 1, 1) := by decide +kernel
theorem d_Years_addPlace_9 : decode prog_12_method_3_code 9 = .ok (.iload_n 2, 1) := by decide +kernel
theorem d_Years_addPlace_10 : decode prog_12_method_3_code 10 = .ok (.iload_n 3, 1) := by decide +kernel
theorem d_Years_addPlace_11 : decode prog_12_method_3_code 11 = .ok (.invokespecial 43, 3) := by decide +kernel
theorem d_Years_addPlace_14 : decode prog_12_method_3_code 14 = .ok (.invokevirtual 46, 3) := by decide +kernel
theorem d_Years_addPlace_17 : decode prog_12_method_3_code 17 = .ok (.pop, 1) := by decide +kernel
theorem d_Years_addPlace_18 : decode prog_12_method_3_code 18 = .ok (.aload_n 0, 1) := by decide +kernel
theorem d_Years_addPlace_19 : decode prog_12_method_3_code 19 = .ok (.getfield 18, 3) := by decide +kernel
theorem d_Years_addPlace_22 : decode prog_12_method_3_code 22 = .ok (.invokevirtual 37, 3) := by decide +kernel
theorem d_Years_addPlace_25 : decode prog_12_method_3_code 25 = .ok (.iconst 1, 1) := by decide +kernel
theorem d_Years_addPlace_26 : decode prog_12_method_3_code 26 = .ok (.isub, 1) := by decide +kernel
theorem d_Years_addPlace_27 : decode prog_12_method_3_code 27 = .ok (.ireturn, 1) := by decide +kernel
theorem d_Years_placeAt_0 : decode prog_12_method_4_code 0 = .ok (.iload_n 1, 1) := by decide +kernel
theorem d_Years_placeAt_1 : decode prog_12_method_4_code 1 = .ok (.iconst 0, 1) := by decide +kernel
theorem d_Years_placeAt_2 : decode prog_12_method_4_code 2 = .ok (.aload_n 0, 1) := by decide +kernel
theorem d_Years_placeAt_3 : decode prog_12_method_4_code 3 = .ok (.getfield 18, 3) := by decide +kernel
theorem d_Years_placeAt_6 : decode prog_12_method_4_code 6 = .ok (.invokevirtual 37, 3) := by decide +kernel
theorem d_Years_placeAt_9 : decode prog_12_method_4_code 9 = .ok (.iconst 1, 1) := by decide +kernel
theorem d_Years_placeAt_10 : decode prog_12_method_4_code 10 = .ok (.isub, 1) := by decide +kernel
theorem d_Years_placeAt_11 : decode prog_12_method_4_code 11 = .ok (.invokestatic 50, 3) := by decide +kernel
theorem d_Years_placeAt_14 : decode prog_12_method_4_code 14 = .ok (.ifCond .eq 17, 3) := by decide +kernel
theorem d_Years_placeAt_17 : decode prog_12_method_4_code 17 = .ok (.aload_n 0, 1) := by decide +kernel
theorem d_Years_placeAt_18 : decode prog_12_method_4_code 18 = .ok (.getfield 18, 3) := by decide +kernel
theorem d_Years_placeAt_21 : decode prog_12_method_4_code 21 = .ok (.iload_n 1, 1) := by decide +kernel
theorem d_Years_placeAt_22 : decode prog_12_method_4_code 22 = .ok (.invokevirtual 54, 3) := by decide +kernel
theorem d_Years_placeAt_25 : decode prog_12_method_4_code 25 = .ok (.checkcast 41, 3) := by decide +kernel
theorem d_Years_placeAt_28 : decode prog_12_method_4_code 28 = .ok (.goto 4, 3) := by decide +kernel
theorem d_Years_placeAt_31 : decode prog_12_method_4_code 31 = .ok (.aconst_null, 1) := by decide +kernel
theorem d_Years_placeAt_32 : decode prog_12_method_4_code 32 = .ok (.areturn, 1) := by decide +kernel
theorem d_Years_weekNow_0 : decode prog_12_method_5_code 0 = .ok (.aload_n 0, 1) := by decide +kernel
theorem d_Years_weekNow_1 : decode prog_12_method_5_code 1 = .ok (.getfield 58, 3) := by decide +kernel
theorem d_Years_weekNow_4 : decode prog_12_method_5_code 4 = .ok (.ireturn, 1) := by decide +kernel
theorem d_Years_timeNow_0 : decode prog_12_method_6_code 0 = .ok (.sipush 1000, 3) := by decide +kernel
theorem d_Years_timeNow_3 : decode prog_12_method_6_code 3 = .ok (.aload_n 0, 1) := by decide +kernel
theorem d_Years_timeNow_4 : decode prog_12_method_6_code 4 = .ok (.getfield 58, 3) := by decide +kernel
theorem d_Years_timeNow_7 : decode prog_12_method_6_code 7 = .ok (.iadd, 1) := by decide +kernel
theorem d_Years_timeNow_8 : decode prog_12_method_6_code 8 = .ok (.ireturn, 1) := by decide +kernel
theorem d_Years_changeBand_0 : decode prog_12_method_7_code 0 = .ok (.iload_n 1, 1) := by decide +kernel
theorem d_Years_changeBand_1 : decode prog_12_method_7_code 1 = .ok (.invokestatic 62, 3) := by decide +kernel
theorem d_Years_changeBand_4 : decode prog_12_method_7_code 4 = .ok (.ifCond .eq 17, 3) := by decide +kernel
theorem d_Years_changeBand_7 : decode prog_12_method_7_code 7 = .ok (.aload_n 0, 1) := by decide +kernel
theorem d_Years_changeBand_8 : decode prog_12_method_7_code 8 = .ok (.getfield 21, 3) := by decide +kernel
theorem d_Years_changeBand_11 : decode prog_12_method_7_code 11 = .ok (.iload_n 1, 1) := by decide +kernel
theorem d_Years_changeBand_12 : decode prog_12_method_7_code 12 = .ok (.iload_n 2, 1) := by decide +kernel
theorem d_Years_changeBand_13 : decode prog_12_method_7_code 13 = .ok (.iastore, 1) := by decide +kernel
theorem d_Years_changeBand_14 : decode prog_12_method_7_code 14 = .ok (.aload_n 0, 1) := by decide +kernel
theorem d_Years_changeBand_15 : decode prog_12_method_7_code 15 = .ok (.getfield 25, 3) := by decide +kernel
theorem d_Years_changeBand_18 : decode prog_12_method_7_code 18 = .ok (.iload_n 1, 1) := by decide +kernel
theorem d_Years_changeBand_19 : decode prog_12_method_7_code 19 = .ok (.iload_n 3, 1) := by decide +kernel
theorem d_Years_changeBand_20 : decode prog_12_method_7_code 20 = .ok (.iastore, 1) := by decide +kernel
theorem d_Years_changeBand_21 : decode prog_12_method_7_code 21 = .ok (.return_, 1) := by decide +kernel
theorem d_Years_keepOf_0 : decode prog_12_method_8_code 0 = .ok (.iload_n 1, 1) := by decide +kernel
theorem d_Years_keepOf_1 : decode prog_12_method_8_code 1 = .ok (.invokestatic 62, 3) := by decide +kernel
theorem d_Years_keepOf_4 : decode prog_12_method_8_code 4 = .ok (.ifCond .eq 12, 3) := by decide +kernel
theorem d_Years_keepOf_7 : decode prog_12_method_8_code 7 = .ok (.aload_n 0, 1) := by decide +kernel
theorem d_Years_keepOf_8 : decode prog_12_method_8_code 8 = .ok (.getfield 34, 3) := by decide +kernel
theorem d_Years_keepOf_11 : decode prog_12_method_8_code 11 = .ok (.iload_n 1, 1) := by decide +kernel
theorem d_Years_keepOf_12 : decode prog_12_method_8_code 12 = .ok (.iaload, 1) := by decide +kernel
theorem d_Years_keepOf_13 : decode prog_12_method_8_code 13 = .ok (.goto 4, 3) := by decide +kernel
theorem d_Years_keepOf_16 : decode prog_12_method_8_code 16 = .ok (.iconst 0, 1) := by decide +kernel
theorem d_Years_keepOf_17 : decode prog_12_method_8_code 17 = .ok (.ireturn, 1) := by decide +kernel
theorem d_Years_changeKeep_0 : decode prog_12_method_9_code 0 = .ok (.aload_n 0, 1) := by decide +kernel
theorem d_Years_changeKeep_1 : decode prog_12_method_9_code 1 = .ok (.iload_n 1, 1) := by decide +kernel
theorem d_Years_changeKeep_2 : decode prog_12_method_9_code 2 = .ok (.invokevirtual 66, 3) := by decide +kernel
theorem d_Years_changeKeep_5 : decode prog_12_method_9_code 5 = .ok (.istore_n 3, 1) := by decide +kernel
theorem d_Years_changeKeep_6 : decode prog_12_method_9_code 6 = .ok (.iload_n 1, 1) := by decide +kernel
theorem d_Years_changeKeep_7 : decode prog_12_method_9_code 7 = .ok (.invokestatic 62, 3) := by decide +kernel
theorem d_Years_changeKeep_10 : decode prog_12_method_9_code 10 = .ok (.ifCond .eq 10, 3) := by decide +kernel
theorem d_Years_changeKeep_13 : decode prog_12_method_9_code 13 = .ok (.aload_n 0, 1) := by decide +kernel
theorem d_Years_changeKeep_14 : decode prog_12_method_9_code 14 = .ok (.getfield 34, 3) := by decide +kernel
theorem d_Years_changeKeep_17 : decode prog_12_method_9_code 17 = .ok (.iload_n 1, 1) := by decide +kernel
theorem d_Years_changeKeep_18 : decode prog_12_method_9_code 18 = .ok (.iload_n 2, 1) := by decide +kernel
theorem d_Years_changeKeep_19 : decode prog_12_method_9_code 19 = .ok (.iastore, 1) := by decide +kernel
theorem d_Years_changeKeep_20 : decode prog_12_method_9_code 20 = .ok (.iload_n 3, 1) := by decide +kernel
theorem d_Years_changeKeep_21 : decode prog_12_method_9_code 21 = .ok (.ireturn, 1) := by decide +kernel
theorem d_Years_isKind_0 : decode prog_12_method_10_code 0 = .ok (.iload_n 0, 1) := by decide +kernel
theorem d_Years_isKind_1 : decode prog_12_method_10_code 1 = .ok (.iconst 0, 1) := by decide +kernel
theorem d_Years_isKind_2 : decode prog_12_method_10_code 2 = .ok (.iconst 3, 1) := by decide +kernel
theorem d_Years_isKind_3 : decode prog_12_method_10_code 3 = .ok (.invokestatic 50, 3) := by decide +kernel
theorem d_Years_isKind_6 : decode prog_12_method_10_code 6 = .ok (.ireturn, 1) := by decide +kernel
theorem d_Years_fuelLeft_0 : decode prog_12_method_11_code 0 = .ok (.aload_n 0, 1) := by decide +kernel
theorem d_Years_fuelLeft_1 : decode prog_12_method_11_code 1 = .ok (.getfield 70, 3) := by decide +kernel
theorem d_Years_fuelLeft_4 : decode prog_12_method_11_code 4 = .ok (.ireturn, 1) := by decide +kernel
theorem d_Years_pour_0 : decode prog_12_method_12_code 0 = .ok (.aload_n 0, 1) := by decide +kernel
theorem d_Years_pour_1 : decode prog_12_method_12_code 1 = .ok (.ldc 73, 2) := by decide +kernel
theorem d_Years_pour_3 : decode prog_12_method_12_code 3 = .ok (.aload_n 0, 1) := by decide +kernel
theorem d_Years_pour_4 : decode prog_12_method_12_code 4 = .ok (.getfield 70, 3) := by decide +kernel
theorem d_Years_pour_7 : decode prog_12_method_12_code 7 = .ok (.iload_n 1, 1) := by decide +kernel
theorem d_Years_pour_8 : decode prog_12_method_12_code 8 = .ok (.iadd, 1) := by decide +kernel
theorem d_Years_pour_9 : decode prog_12_method_12_code 9 = .ok (.invokestatic 74, 3) := by decide +kernel
theorem d_Years_pour_12 : decode prog_12_method_12_code 12 = .ok (.putfield 70, 3) := by decide +kernel
theorem d_Years_pour_15 : decode prog_12_method_12_code 15 = .ok (.aload_n 0, 1) := by decide +kernel
theorem d_Years_pour_16 : decode prog_12_method_12_code 16 = .ok (.getfield 70, 3) := by decide +kernel
theorem d_Years_pour_19 : decode prog_12_method_12_code 19 = .ok (.ireturn, 1) := by decide +kernel
theorem d_Years_canPay_0 : decode prog_12_method_13_code 0 = .ok (.iload_n 1, 1) := by decide +kernel
theorem d_Years_canPay_1 : decode prog_12_method_13_code 1 = .ok (.aload_n 0, 1) := by decide +kernel
theorem d_Years_canPay_2 : decode prog_12_method_13_code 2 = .ok (.getfield 70, 3) := by decide +kernel
theorem d_Years_canPay_5 : decode prog_12_method_13_code 5 = .ok (.if_icmp .gt 7, 3) := by decide +kernel
theorem d_Years_canPay_8 : decode prog_12_method_13_code 8 = .ok (.iconst 1, 1) := by decide +kernel
theorem d_Years_canPay_9 : decode prog_12_method_13_code 9 = .ok (.goto 4, 3) := by decide +kernel
theorem d_Years_canPay_12 : decode prog_12_method_13_code 12 = .ok (.iconst 0, 1) := by decide +kernel
theorem d_Years_canPay_13 : decode prog_12_method_13_code 13 = .ok (.ireturn, 1) := by decide +kernel
theorem d_Years_costOf_0 : decode prog_12_method_14_code 0 = .ok (.aload_n 0, 1) := by decide +kernel
theorem d_Years_costOf_1 : decode prog_12_method_14_code 1 = .ok (.aload_n 1, 1) := by decide +kernel
theorem d_Years_costOf_2 : decode prog_12_method_14_code 2 = .ok (.invokevirtual 80, 3) := by decide +kernel
theorem d_Years_costOf_5 : decode prog_12_method_14_code 5 = .ok (.invokevirtual 85, 3) := by decide +kernel
theorem d_Years_costOf_8 : decode prog_12_method_14_code 8 = .ok (.astore_n 3, 1) := by decide +kernel
theorem d_Years_costOf_9 : decode prog_12_method_14_code 9 = .ok (.aload_n 1, 1) := by decide +kernel
theorem d_Years_costOf_10 : decode prog_12_method_14_code 10 = .ok (.invokevirtual 89, 3) := by decide +kernel
theorem d_Years_costOf_13 : decode prog_12_method_14_code 13 = .ok (.aload_n 2, 1) := by decide +kernel
theorem d_Years_costOf_14 : decode prog_12_method_14_code 14 = .ok (.invokevirtual 92, 3) := by decide +kernel
theorem d_Years_costOf_17 : decode prog_12_method_14_code 17 = .ok (.aload_n 3, 1) := by decide +kernel
theorem d_Years_costOf_18 : decode prog_12_method_14_code 18 = .ok (.ifnonnull 7, 3) := by decide +kernel
theorem d_Years_costOf_21 : decode prog_12_method_14_code 21 = .ok (.iconst 0, 1) := by decide +kernel
theorem d_Years_costOf_22 : decode prog_12_method_14_code 22 = .ok (.goto 7, 3) := by decide +kernel
theorem d_Years_costOf_25 : decode prog_12_method_14_code 25 = .ok (.aload_n 3, 1) := by decide +kernel
theorem d_Years_costOf_26 : decode prog_12_method_14_code 26 = .ok (.invokevirtual 92, 3) := by decide +kernel
theorem d_Years_costOf_29 : decode prog_12_method_14_code 29 = .ok (.iadd, 1) := by decide +kernel
theorem d_Years_costOf_30 : decode prog_12_method_14_code 30 = .ok (.imul, 1) := by decide +kernel
theorem d_Years_costOf_31 : decode prog_12_method_14_code 31 = .ok (.ireturn, 1) := by decide +kernel
theorem d_Years_handsIn_0 : decode prog_12_method_15_code 0 = .ok (.iconst 0, 1) := by decide +kernel
theorem d_Years_handsIn_1 : decode prog_12_method_15_code 1 = .ok (.istore_n 2, 1) := by decide +kernel
theorem d_Years_handsIn_2 : decode prog_12_method_15_code 2 = .ok (.iconst 0, 1) := by decide +kernel
theorem d_Years_handsIn_3 : decode prog_12_method_15_code 3 = .ok (.istore_n 3, 1) := by decide +kernel
theorem d_Years_handsIn_4 : decode prog_12_method_15_code 4 = .ok (.iload_n 3, 1) := by decide +kernel
theorem d_Years_handsIn_5 : decode prog_12_method_15_code 5 = .ok (.aload_n 0, 1) := by decide +kernel
theorem d_Years_handsIn_6 : decode prog_12_method_15_code 6 = .ok (.getfield 9, 3) := by decide +kernel
theorem d_Years_handsIn_9 : decode prog_12_method_15_code 9 = .ok (.invokevirtual 37, 3) := by decide +kernel
theorem d_Years_handsIn_12 : decode prog_12_method_15_code 12 = .ok (.if_icmp .ge 48, 3) := by decide +kernel
theorem d_Years_handsIn_15 : decode prog_12_method_15_code 15 = .ok (.iload_n 2, 1) := by decide +kernel
theorem d_Years_handsIn_16 : decode prog_12_method_15_code 16 = .ok (.aload_n 0, 1) := by decide +kernel
theorem d_Years_handsIn_17 : decode prog_12_method_15_code 17 = .ok (.getfield 9, 3) := by decide +kernel
theorem d_Years_handsIn_20 : decode prog_12_method_15_code 20 = .ok (.iload_n 3, 1) := by decide +kernel
theorem d_Years_handsIn_21 : decode prog_12_method_15_code 21 = .ok (.invokevirtual 54, 3) := by decide +kernel
theorem d_Years_handsIn_24 : decode prog_12_method_15_code 24 = .ok (.checkcast 81, 3) := by decide +kernel
theorem d_Years_handsIn_27 : decode prog_12_method_15_code 27 = .ok (.invokevirtual 80, 3) := by decide +kernel
theorem d_Years_handsIn_30 : decode prog_12_method_15_code 30 = .ok (.iload_n 1, 1) := by decide +kernel
theorem d_Years_handsIn_31 : decode prog_12_method_15_code 31 = .ok (.if_icmp .ne 20, 3) := by decide +kernel
theorem d_Years_handsIn_34 : decode prog_12_method_15_code 34 = .ok (.aload_n 0, 1) := by decide +kernel
theorem d_Years_handsIn_35 : decode prog_12_method_15_code 35 = .ok (.getfield 9, 3) := by decide +kernel
theorem d_Years_handsIn_38 : decode prog_12_method_15_code 38 = .ok (.iload_n 3, 1) := by decide +kernel
theorem d_Years_handsIn_39 : decode prog_12_method_15_code 39 = .ok (.invokevirtual 54, 3) := by decide +kernel
theorem d_Years_handsIn_42 : decode prog_12_method_15_code 42 = .ok (.checkcast 81, 3) := by decide +kernel
theorem d_Years_handsIn_45 : decode prog_12_method_15_code 45 = .ok (.invokevirtual 89, 3) := by decide +kernel
theorem d_Years_handsIn_48 : decode prog_12_method_15_code 48 = .ok (.goto 4, 3) := by decide +kernel
theorem d_Years_handsIn_51 : decode prog_12_method_15_code 51 = .ok (.iconst 0, 1) := by decide +kernel
theorem d_Years_handsIn_52 : decode prog_12_method_15_code 52 = .ok (.iadd, 1) := by decide +kernel
theorem d_Years_handsIn_53 : decode prog_12_method_15_code 53 = .ok (.istore_n 2, 1) := by decide +kernel
theorem d_Years_handsIn_54 : decode prog_12_method_15_code 54 = .ok (.iinc 3 1, 3) := by decide +kernel
theorem d_Years_handsIn_57 : decode prog_12_method_15_code 57 = .ok (.goto (-53), 3) := by decide +kernel
theorem d_Years_handsIn_60 : decode prog_12_method_15_code 60 = .ok (.iload_n 2, 1) := by decide +kernel
theorem d_Years_handsIn_61 : decode prog_12_method_15_code 61 = .ok (.ireturn, 1) := by decide +kernel
theorem d_Years_bring_0 : decode prog_12_method_16_code 0 = .ok (.aload_n 0, 1) := by decide +kernel
theorem d_Years_bring_1 : decode prog_12_method_16_code 1 = .ok (.iload_n 2, 1) := by decide +kernel
theorem d_Years_bring_2 : decode prog_12_method_16_code 2 = .ok (.invokevirtual 85, 3) := by decide +kernel
theorem d_Years_bring_5 : decode prog_12_method_16_code 5 = .ok (.astore_n 3, 1) := by decide +kernel
theorem d_Years_bring_6 : decode prog_12_method_16_code 6 = .ok (.aload_n 3, 1) := by decide +kernel
theorem d_Years_bring_7 : decode prog_12_method_16_code 7 = .ok (.ifnull 31, 3) := by decide +kernel
theorem d_Years_bring_10 : decode prog_12_method_16_code 10 = .ok (.aload_n 0, 1) := by decide +kernel
theorem d_Years_bring_11 : decode prog_12_method_16_code 11 = .ok (.dup, 1) := by decide +kernel
theorem d_Years_bring_12 : decode prog_12_method_16_code 12 = .ok (.getfield 70, 3) := by decide +kernel
theorem d_Years_bring_15 : decode prog_12_method_16_code 15 = .ok (.aload_n 0, 1) := by decide +kernel
theorem d_Years_bring_16 : decode prog_12_method_16_code 16 = .ok (.aload_n 1, 1) := by decide +kernel
theorem d_Years_bring_17 : decode prog_12_method_16_code 17 = .ok (.aload_n 3, 1) := by decide +kernel
theorem d_Years_bring_18 : decode prog_12_method_16_code 18 = .ok (.invokevirtual 95, 3) := by decide +kernel
theorem d_Years_bring_21 : decode prog_12_method_16_code 21 = .ok (.isub, 1) := by decide +kernel
theorem d_Years_bring_22 : decode prog_12_method_16_code 22 = .ok (.putfield 70, 3) := by decide +kernel
theorem d_Years_bring_25 : decode prog_12_method_16_code 25 = .ok (.aload_n 1, 1) := by decide +kernel
theorem d_Years_bring_26 : decode prog_12_method_16_code 26 = .ok (.sipush 400, 3) := by decide +kernel
theorem d_Years_bring_29 : decode prog_12_method_16_code 29 = .ok (.iload_n 2, 1) := by decide +kernel
theorem d_Years_bring_30 : decode prog_12_method_16_code 30 = .ok (.iadd, 1) := by decide +kernel
theorem d_Years_bring_31 : decode prog_12_method_16_code 31 = .ok (.aload_n 0, 1) := by decide +kernel
theorem d_Years_bring_32 : decode prog_12_method_16_code 32 = .ok (.invokevirtual 99, 3) := by decide +kernel
theorem d_Years_bring_35 : decode prog_12_method_16_code 35 = .ok (.invokevirtual 102, 3) := by decide +kernel
theorem d_Years_bring_38 : decode prog_12_method_16_code 38 = .ok (.aload_n 0, 1) := by decide +kernel
theorem d_Years_bring_39 : decode prog_12_method_16_code 39 = .ok (.getfield 70, 3) := by decide +kernel
theorem d_Years_bring_42 : decode prog_12_method_16_code 42 = .ok (.ireturn, 1) := by decide +kernel
theorem d_Years_liveWeek_0 : decode prog_12_method_17_code 0 = .ok (.iconst 0, 1) := by decide +kernel
theorem d_Years_liveWeek_1 : decode prog_12_method_17_code 1 = .ok (.istore_n 1, 1) := by decide +kernel
theorem d_Years_liveWeek_2 : decode prog_12_method_17_code 2 = .ok (.iload_n 1, 1) := by decide +kernel
theorem d_Years_liveWeek_3 : decode prog_12_method_17_code 3 = .ok (.aload_n 0, 1) := by decide +kernel
theorem d_Years_liveWeek_4 : decode prog_12_method_17_code 4 = .ok (.getfield 9, 3) := by decide +kernel
theorem d_Years_liveWeek_7 : decode prog_12_method_17_code 7 = .ok (.invokevirtual 37, 3) := by decide +kernel
theorem d_Years_liveWeek_10 : decode prog_12_method_17_code 10 = .ok (.if_icmp .ge 38, 3) := by decide +kernel
theorem d_Years_liveWeek_13 : decode prog_12_method_17_code 13 = .ok (.aload_n 0, 1) := by decide +kernel
theorem d_Years_liveWeek_14 : decode prog_12_method_17_code 14 = .ok (.getfield 9, 3) := by decide +kernel
theorem d_Years_liveWeek_17 : decode prog_12_method_17_code 17 = .ok (.iload_n 1, 1) := by decide +kernel
theorem d_Years_liveWeek_18 : decode prog_12_method_17_code 18 = .ok (.invokevirtual 54, 3) := by decide +kernel
theorem d_Years_liveWeek_21 : decode prog_12_method_17_code 21 = .ok (.checkcast 81, 3) := by decide +kernel
theorem d_Years_liveWeek_24 : decode prog_12_method_17_code 24 = .ok (.aload_n 0, 1) := by decide +kernel
theorem d_Years_liveWeek_25 : decode prog_12_method_17_code 25 = .ok (.aload_n 0, 1) := by decide +kernel
theorem d_Years_liveWeek_26 : decode prog_12_method_17_code 26 = .ok (.getfield 9, 3) := by decide +kernel
theorem d_Years_liveWeek_29 : decode prog_12_method_17_code 29 = .ok (.iload_n 1, 1) := by decide +kernel
theorem d_Years_liveWeek_30 : decode prog_12_method_17_code 30 = .ok (.invokevirtual 54, 3) := by decide +kernel
theorem d_Years_liveWeek_33 : decode prog_12_method_17_code 33 = .ok (.checkcast 81, 3) := by decide +kernel
theorem d_Years_liveWeek_36 : decode prog_12_method_17_code 36 = .ok (.invokevirtual 106, 3) := by decide +kernel
theorem d_Years_liveWeek_39 : decode prog_12_method_17_code 39 = .ok (.invokevirtual 110, 3) := by decide +kernel
theorem d_Years_liveWeek_42 : decode prog_12_method_17_code 42 = .ok (.iinc 1 1, 3) := by decide +kernel
theorem d_Years_liveWeek_45 : decode prog_12_method_17_code 45 = .ok (.goto (-43), 3) := by decide +kernel
theorem d_Years_liveWeek_48 : decode prog_12_method_17_code 48 = .ok (.aload_n 0, 1) := by decide +kernel
theorem d_Years_liveWeek_49 : decode prog_12_method_17_code 49 = .ok (.dup, 1) := by decide +kernel
theorem d_Years_liveWeek_50 : decode prog_12_method_17_code 50 = .ok (.getfield 58, 3) := by decide +kernel
theorem d_Years_liveWeek_53 : decode prog_12_method_17_code 53 = .ok (.iconst 1, 1) := by decide +kernel
theorem d_Years_liveWeek_54 : decode prog_12_method_17_code 54 = .ok (.iadd, 1) := by decide +kernel
theorem d_Years_liveWeek_55 : decode prog_12_method_17_code 55 = .ok (.putfield 58, 3) := by decide +kernel
theorem d_Years_liveWeek_58 : decode prog_12_method_17_code 58 = .ok (.return_, 1) := by decide +kernel
theorem d_Years_harmOf_0 : decode prog_12_method_18_code 0 = .ok (.aload_n 1, 1) := by decide +kernel
theorem d_Years_harmOf_1 : decode prog_12_method_18_code 1 = .ok (.sipush 300, 3) := by decide +kernel
theorem d_Years_harmOf_4 : decode prog_12_method_18_code 4 = .ok (.invokevirtual 114, 3) := by decide +kernel
theorem d_Years_harmOf_7 : decode prog_12_method_18_code 7 = .ok (.ifCond .eq 6, 3) := by decide +kernel
theorem d_Years_harmOf_10 : decode prog_12_method_18_code 10 = .ok (.bipush 10, 2) := by decide +kernel
theorem d_Years_harmOf_12 : decode prog_12_method_18_code 12 = .ok (.ireturn, 1) := by decide +kernel
theorem d_Years_harmOf_13 : decode prog_12_method_18_code 13 = .ok (.aload_n 0, 1) := by decide +kernel
theorem d_Years_harmOf_14 : decode prog_12_method_18_code 14 = .ok (.aload_n 1, 1) := by decide +kernel
theorem d_Years_harmOf_15 : decode prog_12_method_18_code 15 = .ok (.invokevirtual 80, 3) := by decide +kernel
theorem d_Years_harmOf_18 : decode prog_12_method_18_code 18 = .ok (.invokevirtual 85, 3) := by decide +kernel
theorem d_Years_harmOf_21 : decode prog_12_method_18_code 21 = .ok (.astore_n 2, 1) := by decide +kernel
theorem d_Years_harmOf_22 : decode prog_12_method_18_code 22 = .ok (.aload_n 2, 1) := by decide +kernel
theorem d_Years_harmOf_23 : decode prog_12_method_18_code 23 = .ok (.ifnonnull 5, 3) := by decide +kernel
theorem d_Years_harmOf_26 : decode prog_12_method_18_code 26 = .ok (.iconst 0, 1) := by decide +kernel
theorem d_Years_harmOf_27 : decode prog_12_method_18_code 27 = .ok (.ireturn, 1) := by decide +kernel
theorem d_Years_harmOf_28 : decode prog_12_method_18_code 28 = .ok (.aload_n 2, 1) := by decide +kernel
theorem d_Years_harmOf_29 : decode prog_12_method_18_code 29 = .ok (.aload_n 0, 1) := by decide +kernel
theorem d_Years_harmOf_30 : decode prog_12_method_18_code 30 = .ok (.getfield 58, 3) := by decide +kernel
theorem d_Years_harmOf_33 : decode prog_12_method_18_code 33 = .ok (.invokevirtual 117, 3) := by decide +kernel
theorem d_Years_harmOf_36 : decode prog_12_method_18_code 36 = .ok (.lstore_n 3, 1) := by decide +kernel
theorem d_Years_harmOf_37 : decode prog_12_method_18_code 37 = .ok (.lload_n 3, 1) := by decide +kernel
theorem d_Years_harmOf_38 : decode prog_12_method_18_code 38 = .ok (.ldc2_w 123, 3) := by decide +kernel
theorem d_Years_harmOf_41 : decode prog_12_method_18_code 41 = .ok (.lcmp, 1) := by decide +kernel
theorem d_Years_harmOf_42 : decode prog_12_method_18_code 42 = .ok (.ifCond .ne 7, 3) := by decide +kernel
theorem d_Years_harmOf_45 : decode prog_12_method_18_code 45 = .ok (.iconst 5, 1) := by decide +kernel
theorem d_Years_harmOf_46 : decode prog_12_method_18_code 46 = .ok (.goto 12, 3) := by decide +kernel
theorem d_Years_harmOf_49 : decode prog_12_method_18_code 49 = .ok (.aload_n 0, 1) := by decide +kernel
theorem d_Years_harmOf_50 : decode prog_12_method_18_code 50 = .ok (.lload_n 3, 1) := by decide +kernel
theorem d_Years_harmOf_51 : decode prog_12_method_18_code 51 = .ok (.aload_n 1, 1) := by decide +kernel
theorem d_Years_harmOf_52 : decode prog_12_method_18_code 52 = .ok (.invokevirtual 125, 3) := by decide +kernel
theorem d_Years_harmOf_55 : decode prog_12_method_18_code 55 = .ok (.invokevirtual 128, 3) := by decide +kernel
theorem d_Years_harmOf_58 : decode prog_12_method_18_code 58 = .ok (.ireturn, 1) := by decide +kernel
theorem d_Years_farFromBand_0 : decode prog_12_method_19_code 0 = .ok (.iload_n 3, 1) := by decide +kernel
theorem d_Years_farFromBand_1 : decode prog_12_method_19_code 1 = .ok (.invokestatic 62, 3) := by decide +kernel
theorem d_Years_farFromBand_4 : decode prog_12_method_19_code 4 = .ok (.ifCond .ne 5, 3) := by decide +kernel
theorem d_Years_farFromBand_7 : decode prog_12_method_19_code 7 = .ok (.iconst 0, 1) := by decide +kernel
theorem d_Years_farFromBand_8 : decode prog_12_method_19_code 8 = .ok (.ireturn, 1) := by decide +kernel
theorem d_Years_farFromBand_9 : decode prog_12_method_19_code 9 = .ok (.lconst 0, 1) := by decide +kernel
theorem d_Years_farFromBand_10 : decode prog_12_method_19_code 10 = .ok (.aload_n 0, 1) := by decide +kernel
theorem d_Years_farFromBand_11 : decode prog_12_method_19_code 11 = .ok (.getfield 21, 3) := by decide +kernel
theorem d_Years_farFromBand_14 : decode prog_12_method_19_code 14 = .ok (.iload_n 3, 1) := by decide +kernel
theorem d_Years_farFromBand_15 : decode prog_12_method_19_code 15 = .ok (.iaload, 1) := by decide +kernel
theorem d_Years_farFromBand_16 : decode prog_12_method_19_code 16 = .ok (.i2l, 1) := by decide +kernel
theorem d_Years_farFromBand_17 : decode prog_12_method_19_code 17 = .ok (.lload_n 1, 1) := by decide +kernel
theorem d_Years_farFromBand_18 : decode prog_12_method_19_code 18 = .ok (.lsub, 1) := by decide +kernel
theorem d_Years_farFromBand_19 : decode prog_12_method_19_code 19 = .ok (.lload_n 1, 1) := by decide +kernel
theorem d_Years_farFromBand_20 : decode prog_12_method_19_code 20 = .ok (.aload_n 0, 1) := by decide +kernel
theorem d_Years_farFromBand_21 : decode prog_12_method_19_code 21 = .ok (.getfield 25, 3) := by decide +kernel
theorem d_Years_farFromBand_24 : decode prog_12_method_19_code 24 = .ok (.iload_n 3, 1) := by decide +kernel
theorem d_Years_farFromBand_25 : decode prog_12_method_19_code 25 = .ok (.iaload, 1) := by decide +kernel
theorem d_Years_farFromBand_26 : decode prog_12_method_19_code 26 = .ok (.i2l, 1) := by decide +kernel
theorem d_Years_farFromBand_27 : decode prog_12_method_19_code 27 = .ok (.lsub, 1) := by decide +kernel
theorem d_Years_farFromBand_28 : decode prog_12_method_19_code 28 = .ok (.invokestatic 132, 3) := by decide +kernel
theorem d_Years_farFromBand_31 : decode prog_12_method_19_code 31 = .ok (.invokestatic 132, 3) := by decide +kernel
theorem d_Years_farFromBand_34 : decode prog_12_method_19_code 34 = .ok (.lstore 4, 2) := by decide +kernel
theorem d_Years_farFromBand_36 : decode prog_12_method_19_code 36 = .ok (.ldc2_w 136, 3) := by decide +kernel
theorem d_Years_farFromBand_39 : decode prog_12_method_19_code 39 = .ok (.lload 4, 2) := by decide +kernel
theorem d_Years_farFromBand_41 : decode prog_12_method_19_code 41 = .ok (.invokestatic 138, 3) := by decide +kernel
theorem d_Years_farFromBand_44 : decode prog_12_method_19_code 44 = .ok (.l2i, 1) := by decide +kernel
theorem d_Years_farFromBand_45 : decode prog_12_method_19_code 45 = .ok (.ireturn, 1) := by decide +kernel
theorem d_Years_suits_0 : decode prog_12_method_20_code 0 = .ok (.aload_n 1, 1) := by decide +kernel
theorem d_Years_suits_1 : decode prog_12_method_20_code 1 = .ok (.aload_n 0, 1) := by decide +kernel
theorem d_Years_suits_2 : decode prog_12_method_20_code 2 = .ok (.getfield 58, 3) := by decide +kernel
theorem d_Years_suits_5 : decode prog_12_method_20_code 5 = .ok (.invokevirtual 117, 3) := by decide +kernel
theorem d_Years_suits_8 : decode prog_12_method_20_code 8 = .ok (.lstore_n 3, 1) := by decide +kernel
theorem d_Years_suits_9 : decode prog_12_method_20_code 9 = .ok (.lload_n 3, 1) := by decide +kernel
theorem d_Years_suits_10 : decode prog_12_method_20_code 10 = .ok (.ldc2_w 123, 3) := by decide +kernel
theorem d_Years_suits_13 : decode prog_12_method_20_code 13 = .ok (.lcmp, 1) := by decide +kernel
theorem d_Years_suits_14 : decode prog_12_method_20_code 14 = .ok (.ifCond .eq 19, 3) := by decide +kernel
theorem d_Years_suits_17 : decode prog_12_method_20_code 17 = .ok (.aload_n 0, 1) := by decide +kernel
theorem d_Years_suits_18 : decode prog_12_method_20_code 18 = .ok (.lload_n 3, 1) := by decide +kernel
theorem d_Years_suits_19 : decode prog_12_method_20_code 19 = .ok (.aload_n 2, 1) := by decide +kernel
theorem d_Years_suits_20 : decode prog_12_method_20_code 20 = .ok (.invokevirtual 125, 3) := by decide +kernel
theorem d_Years_suits_23 : decode prog_12_method_20_code 23 = .ok (.invokevirtual 128, 3) := by decide +kernel
theorem d_Years_suits_26 : decode prog_12_method_20_code 26 = .ok (.ifCond .ne 7, 3) := by decide +kernel
theorem d_Years_suits_29 : decode prog_12_method_20_code 29 = .ok (.iconst 1, 1) := by decide +kernel
theorem d_Years_suits_30 : decode prog_12_method_20_code 30 = .ok (.goto 4, 3) := by decide +kernel
theorem d_Years_suits_33 : decode prog_12_method_20_code 33 = .ok (.iconst 0, 1) := by decide +kernel
theorem d_Years_suits_34 : decode prog_12_method_20_code 34 = .ok (.ireturn, 1) := by decide +kernel
theorem d_Years_strike_0 : decode prog_12_method_21_code 0 = .ok (.iconst 0, 1) := by decide +kernel
theorem d_Years_strike_1 : decode prog_12_method_21_code 1 = .ok (.istore_n 2, 1) := by decide +kernel
theorem d_Years_strike_2 : decode prog_12_method_21_code 2 = .ok (.iconst 0, 1) := by decide +kernel
theorem d_Years_strike_3 : decode prog_12_method_21_code 3 = .ok (.istore_n 3, 1) := by decide +kernel
theorem d_Years_strike_4 : decode prog_12_method_21_code 4 = .ok (.iload_n 3, 1) := by decide +kernel
theorem d_Years_strike_5 : decode prog_12_method_21_code 5 = .ok (.aload_n 0, 1) := by decide +kernel
theorem d_Years_strike_6 : decode prog_12_method_21_code 6 = .ok (.getfield 9, 3) := by decide +kernel
theorem d_Years_strike_9 : decode prog_12_method_21_code 9 = .ok (.invokevirtual 37, 3) := by decide +kernel
theorem d_Years_strike_12 : decode prog_12_method_21_code 12 = .ok (.if_icmp .ge 67, 3) := by decide +kernel
theorem d_Years_strike_15 : decode prog_12_method_21_code 15 = .ok (.aload_n 0, 1) := by decide +kernel
theorem d_Years_strike_16 : decode prog_12_method_21_code 16 = .ok (.aload_n 0, 1) := by decide +kernel
theorem d_Years_strike_17 : decode prog_12_method_21_code 17 = .ok (.getfield 9, 3) := by decide +kernel
theorem d_Years_strike_20 : decode prog_12_method_21_code 20 = .ok (.iload_n 3, 1) := by decide +kernel
theorem d_Years_strike_21 : decode prog_12_method_21_code 21 = .ok (.invokevirtual 54, 3) := by decide +kernel
theorem d_Years_strike_24 : decode prog_12_method_21_code 24 = .ok (.checkcast 81, 3) := by decide +kernel
theorem d_Years_strike_27 : decode prog_12_method_21_code 27 = .ok (.invokevirtual 80, 3) := by decide +kernel
theorem d_Years_strike_30 : decode prog_12_method_21_code 30 = .ok (.invokevirtual 85, 3) := by decide +kernel
theorem d_Years_strike_33 : decode prog_12_method_21_code 33 = .ok (.astore 4, 2) := by decide +kernel
theorem d_Years_strike_35 : decode prog_12_method_21_code 35 = .ok (.aload 4, 2) := by decide +kernel
theorem d_Years_strike_37 : decode prog_12_method_21_code 37 = .ok (.ifnull 36, 3) := by decide +kernel
theorem d_Years_strike_40 : decode prog_12_method_21_code 40 = .ok (.aload 4, 2) := by decide +kernel
theorem d_Years_strike_42 : decode prog_12_method_21_code 42 = .ok (.invokevirtual 140, 3) := by decide +kernel
theorem d_Years_strike_45 : decode prog_12_method_21_code 45 = .ok (.iload_n 1, 1) := by decide +kernel
theorem d_Years_strike_46 : decode prog_12_method_21_code 46 = .ok (.if_icmp .ne 27, 3) := by decide +kernel
theorem d_Years_strike_49 : decode prog_12_method_21_code 49 = .ok (.aload_n 0, 1) := by decide +kernel
theorem d_Years_strike_50 : decode prog_12_method_21_code 50 = .ok (.getfield 9, 3) := by decide +kernel
theorem d_Years_strike_53 : decode prog_12_method_21_code 53 = .ok (.iload_n 3, 1) := by decide +kernel
theorem d_Years_strike_54 : decode prog_12_method_21_code 54 = .ok (.invokevirtual 54, 3) := by decide +kernel
theorem d_Years_strike_57 : decode prog_12_method_21_code 57 = .ok (.checkcast 81, 3) := by decide +kernel
theorem d_Years_strike_60 : decode prog_12_method_21_code 60 = .ok (.sipush 500, 3) := by decide +kernel
theorem d_Years_strike_63 : decode prog_12_method_21_code 63 = .ok (.aload_n 0, 1) := by decide +kernel
theorem d_Years_strike_64 : decode prog_12_method_21_code 64 = .ok (.invokevirtual 99, 3) := by decide +kernel
theorem d_Years_strike_67 : decode prog_12_method_21_code 67 = .ok (.invokevirtual 102, 3) := by decide +kernel
theorem d_Years_strike_70 : decode prog_12_method_21_code 70 = .ok (.iinc 2 1, 3) := by decide +kernel
theorem d_Years_strike_73 : decode prog_12_method_21_code 73 = .ok (.iinc 3 1, 3) := by decide +kernel
theorem d_Years_strike_76 : decode prog_12_method_21_code 76 = .ok (.goto (-72), 3) := by decide +kernel
theorem d_Years_strike_79 : decode prog_12_method_21_code 79 = .ok (.iload_n 2, 1) := by decide +kernel
theorem d_Years_strike_80 : decode prog_12_method_21_code 80 = .ok (.ireturn, 1) := by decide +kernel
theorem d_C_init_0 : decode prog_1_method_1_code 0 = .ok (.aload_n 0, 1) := by decide +kernel
theorem d_C_init_1 : decode prog_1_method_1_code 1 = .ok (.invokespecial 3, 3) := by decide +kernel
theorem d_C_init_4 : decode prog_1_method_1_code 4 = .ok (.aload_n 0, 1) := by decide +kernel
theorem d_C_init_5 : decode prog_1_method_1_code 5 = .ok (.new 9, 3) := by decide +kernel
theorem d_C_init_8 : decode prog_1_method_1_code 8 = .ok (.dup, 1) := by decide +kernel
theorem d_C_init_9 : decode prog_1_method_1_code 9 = .ok (.invokespecial 11, 3) := by decide +kernel
theorem d_C_init_12 : decode prog_1_method_1_code 12 = .ok (.putfield 12, 3) := by decide +kernel
theorem d_C_init_15 : decode prog_1_method_1_code 15 = .ok (.aload_n 0, 1) := by decide +kernel
theorem d_C_init_16 : decode prog_1_method_1_code 16 = .ok (.new 16, 3) := by decide +kernel
theorem d_C_init_19 : decode prog_1_method_1_code 19 = .ok (.dup, 1) := by decide +kernel
theorem d_C_init_20 : decode prog_1_method_1_code 20 = .ok (.invokespecial 18, 3) := by decide +kernel
theorem d_C_init_23 : decode prog_1_method_1_code 23 = .ok (.putfield 19, 3) := by decide +kernel
theorem d_C_init_26 : decode prog_1_method_1_code 26 = .ok (.aload_n 0, 1) := by decide +kernel
theorem d_C_init_27 : decode prog_1_method_1_code 27 = .ok (.new 23, 3) := by decide +kernel
theorem d_C_init_30 : decode prog_1_method_1_code 30 = .ok (.dup, 1) := by decide +kernel
theorem d_C_init_31 : decode prog_1_method_1_code 31 = .ok (.aload_n 0, 1) := by decide +kernel
theorem d_C_init_32 : decode prog_1_method_1_code 32 = .ok (.getfield 12, 3) := by decide +kernel
theorem d_C_init_35 : decode prog_1_method_1_code 35 = .ok (.aload_n 0, 1) := by decide +kernel
theorem d_C_init_36 : decode prog_1_method_1_code 36 = .ok (.getfield 19, 3) := by decide +kernel
theorem d_C_init_39 : decode prog_1_method_1_code 39 = .ok (.invokespecial 25, 3) := by decide +kernel
theorem d_C_init_42 : decode prog_1_method_1_code 42 = .ok (.putfield 28, 3) := by decide +kernel
theorem d_C_init_45 : decode prog_1_method_1_code 45 = .ok (.aload_n 0, 1) := by decide +kernel
theorem d_C_init_46 : decode prog_1_method_1_code 46 = .ok (.new 32, 3) := by decide +kernel
theorem d_C_init_49 : decode prog_1_method_1_code 49 = .ok (.dup, 1) := by decide +kernel
theorem d_C_init_50 : decode prog_1_method_1_code 50 = .ok (.aload_n 0, 1) := by decide +kernel
theorem d_C_init_51 : decode prog_1_method_1_code 51 = .ok (.getfield 12, 3) := by decide +kernel
theorem d_C_init_54 : decode prog_1_method_1_code 54 = .ok (.invokespecial 34, 3) := by decide +kernel
theorem d_C_init_57 : decode prog_1_method_1_code 57 = .ok (.putfield 37, 3) := by decide +kernel
theorem d_C_init_60 : decode prog_1_method_1_code 60 = .ok (.aload_n 0, 1) := by decide +kernel
theorem d_C_init_61 : decode prog_1_method_1_code 61 = .ok (.new 41, 3) := by decide +kernel
theorem d_C_init_64 : decode prog_1_method_1_code 64 = .ok (.dup, 1) := by decide +kernel
theorem d_C_init_65 : decode prog_1_method_1_code 65 = .ok (.aload_n 0, 1) := by decide +kernel
theorem d_C_init_66 : decode prog_1_method_1_code 66 = .ok (.getfield 12, 3) := by decide +kernel
theorem d_C_init_69 : decode prog_1_method_1_code 69 = .ok (.aload_n 0, 1) := by decide +kernel
theorem d_C_init_70 : decode prog_1_method_1_code 70 = .ok (.getfield 37, 3) := by decide +kernel
theorem d_C_init_73 : decode prog_1_method_1_code 73 = .ok (.invokespecial 43, 3) := by decide +kernel
theorem d_C_init_76 : decode prog_1_method_1_code 76 = .ok (.putfield 46, 3) := by decide +kernel
theorem d_C_init_79 : decode prog_1_method_1_code 79 = .ok (.aload_n 0, 1) := by decide +kernel
theorem d_C_init_80 : decode prog_1_method_1_code 80 = .ok (.bipush 8, 2) := by decide +kernel
theorem d_C_init_82 : decode prog_1_method_1_code 82 = .ok (.anewarray 50, 3) := by decide +kernel
theorem d_C_init_85 : decode prog_1_method_1_code 85 = .ok (.putfield 52, 3) := by decide +kernel
theorem d_C_init_88 : decode prog_1_method_1_code 88 = .ok (.iconst 0, 1) := by decide +kernel
theorem d_C_init_89 : decode prog_1_method_1_code 89 = .ok (.istore_n 1, 1) := by decide +kernel
theorem d_C_init_90 : decode prog_1_method_1_code 90 = .ok (.iload_n 1, 1) := by decide +kernel
theorem d_C_init_91 : decode prog_1_method_1_code 91 = .ok (.bipush 8, 2) := by decide +kernel
theorem d_C_init_93 : decode prog_1_method_1_code 93 = .ok (.if_icmp .ge 22, 3) := by decide +kernel
theorem d_C_init_96 : decode prog_1_method_1_code 96 = .ok (.aload_n 0, 1) := by decide +kernel
theorem d_C_init_97 : decode prog_1_method_1_code 97 = .ok (.getfield 52, 3) := by decide +kernel
theorem d_C_init_100 : decode prog_1_method_1_code 100 = .ok (.iload_n 1, 1) := by decide +kernel
theorem d_C_init_101 : decode prog_1_method_1_code 101 = .ok (.new 50, 3) := by decide +kernel
theorem d_C_init_104 : decode prog_1_method_1_code 104 = .ok (.dup, 1) := by decide +kernel
theorem d_C_init_105 : decode prog_1_method_1_code 105 = .ok (.invokespecial 56, 3) := by decide +kernel
theorem d_C_init_108 : decode prog_1_method_1_code 108 = .ok (.aastore, 1) := by decide +kernel
theorem d_C_init_109 : decode prog_1_method_1_code 109 = .ok (.iinc 1 1, 3) := by decide +kernel
theorem d_C_init_112 : decode prog_1_method_1_code 112 = .ok (.goto (-22), 3) := by decide +kernel
theorem d_C_init_115 : decode prog_1_method_1_code 115 = .ok (.aload_n 0, 1) := by decide +kernel
theorem d_C_init_116 : decode prog_1_method_1_code 116 = .ok (.bipush 8, 2) := by decide +kernel
theorem d_C_init_118 : decode prog_1_method_1_code 118 = .ok (.newarray .int, 2) := by decide +kernel
theorem d_C_init_120 : decode prog_1_method_1_code 120 = .ok (.putfield 57, 3) := by decide +kernel
theorem d_C_init_123 : decode prog_1_method_1_code 123 = .ok (.aload_n 0, 1) := by decide +kernel
theorem d_C_init_124 : decode prog_1_method_1_code 124 = .ok (.getfield 57, 3) := by decide +kernel
theorem d_C_init_127 : decode prog_1_method_1_code 127 = .ok (.iconst (-1), 1) := by decide +kernel
theorem d_C_init_128 : decode prog_1_method_1_code 128 = .ok (.invokestatic 61, 3) := by decide +kernel
theorem d_C_init_131 : decode prog_1_method_1_code 131 = .ok (.aload_n 0, 1) := by decide +kernel
theorem d_C_init_132 : decode prog_1_method_1_code 132 = .ok (.new 67, 3) := by decide +kernel
theorem d_C_init_135 : decode prog_1_method_1_code 135 = .ok (.dup, 1) := by decide +kernel
theorem d_C_init_136 : decode prog_1_method_1_code 136 = .ok (.invokespecial 69, 3) := by decide +kernel
theorem d_C_init_139 : decode prog_1_method_1_code 139 = .ok (.putfield 70, 3) := by decide +kernel
theorem d_C_init_142 : decode prog_1_method_1_code 142 = .ok (.aload_n 0, 1) := by decide +kernel
theorem d_C_init_143 : decode prog_1_method_1_code 143 = .ok (.bipush 8, 2) := by decide +kernel
theorem d_C_init_145 : decode prog_1_method_1_code 145 = .ok (.newarray .int, 2) := by decide +kernel
theorem d_C_init_147 : decode prog_1_method_1_code 147 = .ok (.putfield 74, 3) := by decide +kernel
theorem d_C_init_150 : decode prog_1_method_1_code 150 = .ok (.aload_n 0, 1) := by decide +kernel
theorem d_C_init_151 : decode prog_1_method_1_code 151 = .ok (.iconst (-1), 1) := by decide +kernel
theorem d_C_init_152 : decode prog_1_method_1_code 152 = .ok (.putfield 77, 3) := by decide +kernel
theorem d_C_init_155 : decode prog_1_method_1_code 155 = .ok (.aload_n 0, 1) := by decide +kernel
theorem d_C_init_156 : decode prog_1_method_1_code 156 = .ok (.iconst 0, 1) := by decide +kernel
theorem d_C_init_157 : decode prog_1_method_1_code 157 = .ok (.putfield 81, 3) := by decide +kernel
theorem d_C_init_160 : decode prog_1_method_1_code 160 = .ok (.return_, 1) := by decide +kernel
theorem d_C_door_0 : decode prog_1_method_2_code 0 = .ok (.iload_n 1, 1) := by decide +kernel
theorem d_C_door_1 : decode prog_1_method_2_code 1 = .ok (.iconst 0, 1) := by decide +kernel
theorem d_C_door_2 : decode prog_1_method_2_code 2 = .ok (.bipush 11, 2) := by decide +kernel
theorem d_C_door_4 : decode prog_1_method_2_code 4 = .ok (.invokestatic 84, 3) := by decide +kernel
theorem d_C_door_7 : decode prog_1_method_2_code 7 = .ok (.ifCond .eq 13, 3) := by decide +kernel
theorem d_C_door_10 : decode prog_1_method_2_code 10 = .ok (.iload_n 2, 1) := by decide +kernel
theorem d_C_door_11 : decode prog_1_method_2_code 11 = .ok (.iconst 0, 1) := by decide +kernel
theorem d_C_door_12 : decode prog_1_method_2_code 12 = .ok (.bipush 11, 2) := by decide +kernel
theorem d_C_door_14 : decode prog_1_method_2_code 14 = .ok (.invokestatic 84, 3) := by decide +kernel
theorem d_C_door_17 : decode prog_1_method_2_code 17 = .ok (.ifCond .ne 9, 3) := by decide +kernel
theorem d_C_door_20 : decode prog_1_method_2_code 20 = .ok (.aload_n 0, 1) := by decide +kernel
theorem d_C_door_21 : decode prog_1_method_2_code 21 = .ok (.iconst (-1), 1) := by decide +kernel
theorem d_C_door_22 : decode prog_1_method_2_code 22 = .ok (.invokevirtual 88, 3) := by decide +kernel
theorem d_C_door_25 : decode prog_1_method_2_code 25 = .ok (.ireturn, 1) := by decide +kernel
theorem d_C_door_26 : decode prog_1_method_2_code 26 = .ok (.iload_n 1, 1) := by decide +kernel
theorem d_C_door_27 : decode prog_1_method_2_code 27 = .ok (.iload_n 2, 1) := by decide +kernel
theorem d_C_door_28 : decode prog_1_method_2_code 28 = .ok (.if_icmp .eq 20, 3) := by decide +kernel
theorem d_C_door_31 : decode prog_1_method_2_code 31 = .ok (.iload_n 3, 1) := by decide +kernel
theorem d_C_door_32 : decode prog_1_method_2_code 32 = .ok (.iconst 1, 1) := by decide +kernel
theorem d_C_door_33 : decode prog_1_method_2_code 33 = .ok (.bipush 9, 2) := by decide +kernel
theorem d_C_door_35 : decode prog_1_method_2_code 35 = .ok (.invokestatic 84, 3) := by decide +kernel
theorem d_C_door_38 : decode prog_1_method_2_code 38 = .ok (.ifCond .eq 10, 3) := by decide +kernel
theorem d_C_door_41 : decode prog_1_method_2_code 41 = .ok (.aload_n 0, 1) := by decide +kernel
theorem d_C_door_42 : decode prog_1_method_2_code 42 = .ok (.getfield 81, 3) := by decide +kernel
theorem d_C_door_45 : decode prog_1_method_2_code 45 = .ok (.ifCond .eq 10, 3) := by decide +kernel
theorem d_C_door_48 : decode prog_1_method_2_code 48 = .ok (.aload_n 0, 1) := by decide +kernel
theorem d_C_door_49 : decode prog_1_method_2_code 49 = .ok (.bipush (-6), 2) := by decide +kernel
theorem d_C_door_51 : decode prog_1_method_2_code 51 = .ok (.invokevirtual 88, 3) := by decide +kernel
theorem d_C_door_54 : decode prog_1_method_2_code 54 = .ok (.ireturn, 1) := by decide +kernel
theorem d_C_door_55 : decode prog_1_method_2_code 55 = .ok (.aload_n 0, 1) := by decide +kernel
theorem d_C_door_56 : decode prog_1_method_2_code 56 = .ok (.getfield 19, 3) := by decide +kernel
theorem d_C_door_59 : decode prog_1_method_2_code 59 = .ok (.invokevirtual 92, 3) := by decide +kernel
theorem d_C_door_62 : decode prog_1_method_2_code 62 = .ok (.bipush 20, 2) := by decide +kernel
theorem d_C_door_64 : decode prog_1_method_2_code 64 = .ok (.if_icmp .lt 10, 3) := by decide +kernel
theorem d_C_door_67 : decode prog_1_method_2_code 67 = .ok (.aload_n 0, 1) := by decide +kernel
theorem d_C_door_68 : decode prog_1_method_2_code 68 = .ok (.bipush (-7), 2) := by decide +kernel
theorem d_C_door_70 : decode prog_1_method_2_code 70 = .ok (.invokevirtual 88, 3) := by decide +kernel
theorem d_C_door_73 : decode prog_1_method_2_code 73 = .ok (.ireturn, 1) := by decide +kernel
theorem d_C_door_74 : decode prog_1_method_2_code 74 = .ok (.aload_n 0, 1) := by decide +kernel
theorem d_C_door_75 : decode prog_1_method_2_code 75 = .ok (.getfield 19, 3) := by decide +kernel
theorem d_C_door_78 : decode prog_1_method_2_code 78 = .ok (.iload_n 1, 1) := by decide +kernel
theorem d_C_door_79 : decode prog_1_method_2_code 79 = .ok (.iload_n 2, 1) := by decide +kernel
theorem d_C_door_80 : decode prog_1_method_2_code 80 = .ok (.iload_n 3, 1) := by decide +kernel
theorem d_C_door_81 : decode prog_1_method_2_code 81 = .ok (.invokevirtual 96, 3) := by decide +kernel
theorem d_C_door_84 : decode prog_1_method_2_code 84 = .ok (.ireturn, 1) := by decide +kernel
theorem d_C_team_0 : decode prog_1_method_3_code 0 = .ok (.iload_n 1, 1) := by decide +kernel
theorem d_C_team_1 : decode prog_1_method_3_code 1 = .ok (.iconst 1, 1) := by decide +kernel
theorem d_C_team_2 : decode prog_1_method_3_code 2 = .ok (.iconst 4, 1) := by decide +kernel
theorem d_C_team_3 : decode prog_1_method_3_code 3 = .ok (.invokestatic 84, 3) := by decide +kernel
theorem d_C_team_6 : decode prog_1_method_3_code 6 = .ok (.ifCond .eq 10, 3) := by decide +kernel
theorem d_C_team_9 : decode prog_1_method_3_code 9 = .ok (.aload_n 0, 1) := by decide +kernel
theorem d_C_team_10 : decode prog_1_method_3_code 10 = .ok (.getfield 81, 3) := by decide +kernel
theorem d_C_team_13 : decode prog_1_method_3_code 13 = .ok (.ifCond .eq 10, 3) := by decide +kernel
theorem d_C_team_16 : decode prog_1_method_3_code 16 = .ok (.aload_n 0, 1) := by decide +kernel
theorem d_C_team_17 : decode prog_1_method_3_code 17 = .ok (.bipush (-6), 2) := by decide +kernel
theorem d_C_team_19 : decode prog_1_method_3_code 19 = .ok (.invokevirtual 88, 3) := by decide +kernel
theorem d_C_team_22 : decode prog_1_method_3_code 22 = .ok (.ireturn, 1) := by decide +kernel
theorem d_C_team_23 : decode prog_1_method_3_code 23 = .ok (.aload_n 0, 1) := by decide +kernel
theorem d_C_team_24 : decode prog_1_method_3_code 24 = .ok (.getfield 28, 3) := by decide +kernel
theorem d_C_team_27 : decode prog_1_method_3_code 27 = .ok (.invokevirtual 100, 3) := by decide +kernel
theorem d_C_team_30 : decode prog_1_method_3_code 30 = .ok (.iconst 3, 1) := by decide +kernel
theorem d_C_team_31 : decode prog_1_method_3_code 31 = .ok (.if_icmp .lt 10, 3) := by decide +kernel
theorem d_C_team_34 : decode prog_1_method_3_code 34 = .ok (.aload_n 0, 1) := by decide +kernel
theorem d_C_team_35 : decode prog_1_method_3_code 35 = .ok (.bipush (-7), 2) := by decide +kernel
theorem d_C_team_37 : decode prog_1_method_3_code 37 = .ok (.invokevirtual 88, 3) := by decide +kernel
theorem d_C_team_40 : decode prog_1_method_3_code 40 = .ok (.ireturn, 1) := by decide +kernel
theorem d_C_team_41 : decode prog_1_method_3_code 41 = .ok (.aload_n 0, 1) := by decide +kernel
theorem d_C_team_42 : decode prog_1_method_3_code 42 = .ok (.getfield 28, 3) := by decide +kernel
theorem d_C_team_45 : decode prog_1_method_3_code 45 = .ok (.iload_n 1, 1) := by decide +kernel
theorem d_C_team_46 : decode prog_1_method_3_code 46 = .ok (.invokevirtual 103, 3) := by decide +kernel
theorem d_C_team_49 : decode prog_1_method_3_code 49 = .ok (.ireturn, 1) := by decide +kernel
theorem d_C_thing_0 : decode prog_1_method_4_code 0 = .ok (.iload_n 1, 1) := by decide +kernel
theorem d_C_thing_1 : decode prog_1_method_4_code 1 = .ok (.iconst 0, 1) := by decide +kernel
theorem d_C_thing_2 : decode prog_1_method_4_code 2 = .ok (.iconst 3, 1) := by decide +kernel
theorem d_C_thing_3 : decode prog_1_method_4_code 3 = .ok (.invokestatic 84, 3) := by decide +kernel
theorem d_C_thing_6 : decode prog_1_method_4_code 6 = .ok (.ifCond .eq 14, 3) := by decide +kernel
theorem d_C_thing_9 : decode prog_1_method_4_code 9 = .ok (.iload 4, 2) := by decide +kernel
theorem d_C_thing_11 : decode prog_1_method_4_code 11 = .ok (.iconst 1, 1) := by decide +kernel
theorem d_C_thing_12 : decode prog_1_method_4_code 12 = .ok (.bipush 11, 2) := by decide +kernel
theorem d_C_thing_14 : decode prog_1_method_4_code 14 = .ok (.invokestatic 84, 3) := by decide +kernel
theorem d_C_thing_17 : decode prog_1_method_4_code 17 = .ok (.ifCond .ne 9, 3) := by decide +kernel
theorem d_C_thing_20 : decode prog_1_method_4_code 20 = .ok (.aload_n 0, 1) := by decide +kernel
theorem d_C_thing_21 : decode prog_1_method_4_code 21 = .ok (.iconst (-1), 1) := by decide +kernel
theorem d_C_thing_22 : decode prog_1_method_4_code 22 = .ok (.invokevirtual 88, 3) := by decide +kernel
theorem d_C_thing_25 : decode prog_1_method_4_code 25 = .ok (.ireturn, 1) := by decide +kernel
theorem d_C_thing_26 : decode prog_1_method_4_code 26 = .ok (.iload_n 2, 1) := by decide +kernel
theorem d_C_thing_27 : decode prog_1_method_4_code 27 = .ok (.iconst 1, 1) := by decide +kernel
theorem d_C_thing_28 : decode prog_1_method_4_code 28 = .ok (.bipush 100, 2) := by decide +kernel
theorem d_C_thing_30 : decode prog_1_method_4_code 30 = .ok (.invokestatic 84, 3) := by decide +kernel
theorem d_C_thing_33 : decode prog_1_method_4_code 33 = .ok (.ifCond .eq 23, 3) := by decide +kernel
theorem d_C_thing_36 : decode prog_1_method_4_code 36 = .ok (.iload_n 3, 1) := by decide +kernel
theorem d_C_thing_37 : decode prog_1_method_4_code 37 = .ok (.iconst 1, 1) := by decide +kernel
theorem d_C_thing_38 : decode prog_1_method_4_code 38 = .ok (.iconst 4, 1) := by decide +kernel
theorem d_C_thing_39 : decode prog_1_method_4_code 39 = .ok (.invokestatic 84, 3) := by decide +kernel
theorem d_C_thing_42 : decode prog_1_method_4_code 42 = .ok (.ifCond .eq 14, 3) := by decide +kernel
theorem d_C_thing_45 : decode prog_1_method_4_code 45 = .ok (.iload 5, 2) := by decide +kernel
theorem d_C_thing_47 : decode prog_1_method_4_code 47 = .ok (.iconst 0, 1) := by decide +kernel
theorem d_C_thing_48 : decode prog_1_method_4_code 48 = .ok (.bipush 20, 2) := by decide +kernel
theorem d_C_thing_50 : decode prog_1_method_4_code 50 = .ok (.invokestatic 84, 3) := by decide +kernel
theorem d_C_thing_53 : decode prog_1_method_4_code 53 = .ok (.ifCond .ne 10, 3) := by decide +kernel
theorem d_C_thing_56 : decode prog_1_method_4_code 56 = .ok (.aload_n 0, 1) := by decide +kernel
theorem d_C_thing_57 : decode prog_1_method_4_code 57 = .ok (.bipush (-6), 2) := by decide +kernel
theorem d_C_thing_59 : decode prog_1_method_4_code 59 = .ok (.invokevirtual 88, 3) := by decide +kernel
theorem d_C_thing_62 : decode prog_1_method_4_code 62 = .ok (.ireturn, 1) := by decide +kernel
theorem d_C_thing_63 : decode prog_1_method_4_code 63 = .ok (.aload_n 0, 1) := by decide +kernel
theorem d_C_thing_64 : decode prog_1_method_4_code 64 = .ok (.iload_n 1, 1) := by decide +kernel
theorem d_C_thing_65 : decode prog_1_method_4_code 65 = .ok (.iload_n 2, 1) := by decide +kernel
theorem d_C_thing_66 : decode prog_1_method_4_code 66 = .ok (.iload_n 3, 1) := by decide +kernel
theorem d_C_thing_67 : decode prog_1_method_4_code 67 = .ok (.iload 4, 2) := by decide +kernel
theorem d_C_thing_69 : decode prog_1_method_4_code 69 = .ok (.iload 5, 2) := by decide +kernel
theorem d_C_thing_71 : decode prog_1_method_4_code 71 = .ok (.invokevirtual 106, 3) := by decide +kernel
theorem d_C_thing_74 : decode prog_1_method_4_code 74 = .ok (.ireturn, 1) := by decide +kernel
theorem d_C_label_0 : decode prog_1_method_5_code 0 = .ok (.aload_n 0, 1) := by decide +kernel
theorem d_C_label_1 : decode prog_1_method_5_code 1 = .ok (.iload_n 1, 1) := by decide +kernel
theorem d_C_label_2 : decode prog_1_method_5_code 2 = .ok (.invokevirtual 110, 3) := by decide +kernel
theorem d_C_label_5 : decode prog_1_method_5_code 5 = .ok (.astore_n 2, 1) := by decide +kernel
theorem d_C_label_6 : decode prog_1_method_5_code 6 = .ok (.aload_n 2, 1) := by decide +kernel
theorem d_C_label_7 : decode prog_1_method_5_code 7 = .ok (.ifnonnull 13, 3) := by decide +kernel
theorem d_C_label_10 : decode prog_1_method_5_code 10 = .ok (.aload_n 0, 1) := by decide +kernel
theorem d_C_label_11 : decode prog_1_method_5_code 11 = .ok (.aload_n 0, 1) := by decide +kernel
theorem d_C_label_12 : decode prog_1_method_5_code 12 = .ok (.iload_n 1, 1) := by decide +kernel
theorem d_C_label_13 : decode prog_1_method_5_code 13 = .ok (.invokevirtual 114, 3) := by decide +kernel
theorem d_C_label_16 : decode prog_1_method_5_code 16 = .ok (.invokevirtual 88, 3) := by decide +kernel
theorem d_C_label_19 : decode prog_1_method_5_code 19 = .ok (.ireturn, 1) := by decide +kernel
theorem d_C_label_20 : decode prog_1_method_5_code 20 = .ok (.aload_n 0, 1) := by decide +kernel
theorem d_C_label_21 : decode prog_1_method_5_code 21 = .ok (.aload_n 0, 1) := by decide +kernel
theorem d_C_label_22 : decode prog_1_method_5_code 22 = .ok (.getfield 70, 3) := by decide +kernel
theorem d_C_label_25 : decode prog_1_method_5_code 25 = .ok (.aload_n 2, 1) := by decide +kernel
theorem d_C_label_26 : decode prog_1_method_5_code 26 = .ok (.invokevirtual 117, 3) := by decide +kernel
theorem d_C_label_29 : decode prog_1_method_5_code 29 = .ok (.putfield 77, 3) := by decide +kernel
theorem d_C_label_32 : decode prog_1_method_5_code 32 = .ok (.aload_n 0, 1) := by decide +kernel
theorem d_C_label_33 : decode prog_1_method_5_code 33 = .ok (.getfield 77, 3) := by decide +kernel
theorem d_C_label_36 : decode prog_1_method_5_code 36 = .ok (.iconst (-1), 1) := by decide +kernel
theorem d_C_label_37 : decode prog_1_method_5_code 37 = .ok (.if_icmp .eq 10, 3) := by decide +kernel
theorem d_C_label_40 : decode prog_1_method_5_code 40 = .ok (.aload_n 0, 1) := by decide +kernel
theorem d_C_label_41 : decode prog_1_method_5_code 41 = .ok (.bipush (-6), 2) := by decide +kernel
theorem d_C_label_43 : decode prog_1_method_5_code 43 = .ok (.invokevirtual 88, 3) := by decide +kernel
theorem d_C_label_46 : decode prog_1_method_5_code 46 = .ok (.ireturn, 1) := by decide +kernel
theorem d_C_label_47 : decode prog_1_method_5_code 47 = .ok (.aload_n 0, 1) := by decide +kernel
theorem d_C_label_48 : decode prog_1_method_5_code 48 = .ok (.aload_n 0, 1) := by decide +kernel
theorem d_C_label_49 : decode prog_1_method_5_code 49 = .ok (.getfield 70, 3) := by decide +kernel
theorem d_C_label_52 : decode prog_1_method_5_code 52 = .ok (.iconst 0, 1) := by decide +kernel
theorem d_C_label_53 : decode prog_1_method_5_code 53 = .ok (.invokevirtual 121, 3) := by decide +kernel
theorem d_C_label_56 : decode prog_1_method_5_code 56 = .ok (.aload_n 0, 1) := by decide +kernel
theorem d_C_label_57 : decode prog_1_method_5_code 57 = .ok (.getfield 70, 3) := by decide +kernel
theorem d_C_label_60 : decode prog_1_method_5_code 60 = .ok (.iconst 1, 1) := by decide +kernel
theorem d_C_label_61 : decode prog_1_method_5_code 61 = .ok (.invokevirtual 121, 3) := by decide +kernel
theorem d_C_label_64 : decode prog_1_method_5_code 64 = .ok (.aload_n 0, 1) := by decide +kernel
theorem d_C_label_65 : decode prog_1_method_5_code 65 = .ok (.getfield 70, 3) := by decide +kernel
theorem d_C_label_68 : decode prog_1_method_5_code 68 = .ok (.iconst 2, 1) := by decide +kernel
theorem d_C_label_69 : decode prog_1_method_5_code 69 = .ok (.invokevirtual 121, 3) := by decide +kernel
theorem d_C_label_72 : decode prog_1_method_5_code 72 = .ok (.aload_n 0, 1) := by decide +kernel
theorem d_C_label_73 : decode prog_1_method_5_code 73 = .ok (.getfield 70, 3) := by decide +kernel
theorem d_C_label_76 : decode prog_1_method_5_code 76 = .ok (.iconst 3, 1) := by decide +kernel
theorem d_C_label_77 : decode prog_1_method_5_code 77 = .ok (.invokevirtual 121, 3) := by decide +kernel
theorem d_C_label_80 : decode prog_1_method_5_code 80 = .ok (.aload_n 0, 1) := by decide +kernel
theorem d_C_label_81 : decode prog_1_method_5_code 81 = .ok (.getfield 70, 3) := by decide +kernel
theorem d_C_label_84 : decode prog_1_method_5_code 84 = .ok (.iconst 4, 1) := by decide +kernel
theorem d_C_label_85 : decode prog_1_method_5_code 85 = .ok (.invokevirtual 121, 3) := by decide +kernel
theorem d_C_label_88 : decode prog_1_method_5_code 88 = .ok (.invokevirtual 106, 3) := by decide +kernel
theorem d_C_label_91 : decode prog_1_method_5_code 91 = .ok (.ireturn, 1) := by decide +kernel
theorem d_C_addThing_0 : decode prog_1_method_6_code 0 = .ok (.aload_n 0, 1) := by decide +kernel
theorem d_C_addThing_1 : decode prog_1_method_6_code 1 = .ok (.getfield 81, 3) := by decide +kernel
theorem d_C_addThing_4 : decode prog_1_method_6_code 4 = .ok (.ifCond .eq 10, 3) := by decide +kernel
theorem d_C_addThing_7 : decode prog_1_method_6_code 7 = .ok (.aload_n 0, 1) := by decide +kernel
theorem d_C_addThing_8 : decode prog_1_method_6_code 8 = .ok (.bipush (-6), 2) := by decide +kernel
theorem d_C_addThing_10 : decode prog_1_method_6_code 10 = .ok (.invokevirtual 88, 3) := by decide +kernel
theorem d_C_addThing_13 : decode prog_1_method_6_code 13 = .ok (.ireturn, 1) := by decide +kernel
theorem d_C_addThing_14 : decode prog_1_method_6_code 14 = .ok (.aload_n 0, 1) := by decide +kernel
theorem d_C_addThing_15 : decode prog_1_method_6_code 15 = .ok (.getfield 12, 3) := by decide +kernel
theorem d_C_addThing_18 : decode prog_1_method_6_code 18 = .ok (.invokevirtual 124, 3) := by decide +kernel
theorem d_C_addThing_21 : decode prog_1_method_6_code 21 = .ok (.istore 6, 2) := by decide +kernel
theorem d_C_addThing_23 : decode prog_1_method_6_code 23 = .ok (.iload 6, 2) := by decide +kernel
theorem d_C_addThing_25 : decode prog_1_method_6_code 25 = .ok (.bipush 16, 2) := by decide +kernel
theorem d_C_addThing_27 : decode prog_1_method_6_code 27 = .ok (.if_icmp .lt 10, 3) := by decide +kernel
theorem d_C_addThing_30 : decode prog_1_method_6_code 30 = .ok (.aload_n 0, 1) := by decide +kernel
theorem d_C_addThing_31 : decode prog_1_method_6_code 31 = .ok (.bipush (-7), 2) := by decide +kernel
theorem d_C_addThing_33 : decode prog_1_method_6_code 33 = .ok (.invokevirtual 88, 3) := by decide +kernel
theorem d_C_addThing_36 : decode prog_1_method_6_code 36 = .ok (.ireturn, 1) := by decide +kernel
theorem d_C_addThing_37 : decode prog_1_method_6_code 37 = .ok (.aload_n 0, 1) := by decide +kernel
theorem d_C_addThing_38 : decode prog_1_method_6_code 38 = .ok (.getfield 12, 3) := by decide +kernel
theorem d_C_addThing_41 : decode prog_1_method_6_code 41 = .ok (.new 127, 3) := by decide +kernel
theorem d_C_addThing_44 : decode prog_1_method_6_code 44 = .ok (.dup, 1) := by decide +kernel
theorem d_C_addThing_45 : decode prog_1_method_6_code 45 = .ok (.iload 6, 2) := by decide +kernel
theorem d_C_addThing_47 : decode prog_1_method_6_code 47 = .ok (.iload_n 1, 1) := by decide +kernel
theorem d_C_addThing_48 : decode prog_1_method_6_code 48 = .ok (.iload_n 2, 1) := by decide +kernel
theorem d_C_addThing_49 : decode prog_1_method_6_code 49 = .ok (.iload_n 3, 1) := by decide +kernel
theorem d_C_addThing_50 : decode prog_1_method_6_code 50 = .ok (.iload 4, 2) := by decide +kernel
theorem d_C_addThing_52 : decode prog_1_method_6_code 52 = .ok (.iload 5, 2) := by decide +kernel
theorem d_C_addThing_54 : decode prog_1_method_6_code 54 = .ok (.invokespecial 129, 3) := by decide +kernel
theorem d_C_addThing_57 : decode prog_1_method_6_code 57 = .ok (.invokevirtual 132, 3) := by decide +kernel
theorem d_C_addThing_60 : decode prog_1_method_6_code 60 = .ok (.pop, 1) := by decide +kernel
theorem d_C_addThing_61 : decode prog_1_method_6_code 61 = .ok (.iload 6, 2) := by decide +kernel
theorem d_C_addThing_63 : decode prog_1_method_6_code 63 = .ok (.ireturn, 1) := by decide +kernel
theorem d_C_fault_0 : decode prog_1_method_7_code 0 = .ok (.aload_n 0, 1) := by decide +kernel
theorem d_C_fault_1 : decode prog_1_method_7_code 1 = .ok (.getfield 77, 3) := by decide +kernel
theorem d_C_fault_4 : decode prog_1_method_7_code 4 = .ok (.ireturn, 1) := by decide +kernel
theorem d_C_danger_0 : decode prog_1_method_8_code 0 = .ok (.iload_n 1, 1) := by decide +kernel
theorem d_C_danger_1 : decode prog_1_method_8_code 1 = .ok (.iconst 1, 1) := by decide +kernel
theorem d_C_danger_2 : decode prog_1_method_8_code 2 = .ok (.bipush 11, 2) := by decide +kernel
theorem d_C_danger_4 : decode prog_1_method_8_code 4 = .ok (.invokestatic 84, 3) := by decide +kernel
theorem d_C_danger_7 : decode prog_1_method_8_code 7 = .ok (.ifCond .ne 9, 3) := by decide +kernel
theorem d_C_danger_10 : decode prog_1_method_8_code 10 = .ok (.aload_n 0, 1) := by decide +kernel
theorem d_C_danger_11 : decode prog_1_method_8_code 11 = .ok (.iconst (-1), 1) := by decide +kernel
theorem d_C_danger_12 : decode prog_1_method_8_code 12 = .ok (.invokevirtual 88, 3) := by decide +kernel
theorem d_C_danger_15 : decode prog_1_method_8_code 15 = .ok (.ireturn, 1) := by decide +kernel
theorem d_C_danger_16 : decode prog_1_method_8_code 16 = .ok (.iload_n 2, 1) := by decide +kernel
theorem d_C_danger_17 : decode prog_1_method_8_code 17 = .ok (.iconst (-1), 1) := by decide +kernel
theorem d_C_danger_18 : decode prog_1_method_8_code 18 = .ok (.if_icmp .ne 7, 3) := by decide +kernel
theorem d_C_danger_21 : decode prog_1_method_8_code 21 = .ok (.iconst 1, 1) := by decide +kernel
theorem d_C_danger_22 : decode prog_1_method_8_code 22 = .ok (.goto 4, 3) := by decide +kernel
theorem d_C_danger_25 : decode prog_1_method_8_code 25 = .ok (.iconst 0, 1) := by decide +kernel
theorem d_C_danger_26 : decode prog_1_method_8_code 26 = .ok (.istore_n 3, 1) := by decide +kernel
theorem d_C_danger_27 : decode prog_1_method_8_code 27 = .ok (.aload_n 0, 1) := by decide +kernel
theorem d_C_danger_28 : decode prog_1_method_8_code 28 = .ok (.getfield 81, 3) := by decide +kernel
theorem d_C_danger_31 : decode prog_1_method_8_code 31 = .ok (.iconst 1, 1) := by decide +kernel
theorem d_C_danger_32 : decode prog_1_method_8_code 32 = .ok (.if_icmp .ne 22, 3) := by decide +kernel
theorem d_C_danger_35 : decode prog_1_method_8_code 35 = .ok (.iload_n 3, 1) := by decide +kernel
theorem d_C_danger_36 : decode prog_1_method_8_code 36 = .ok (.ifCond .ne 18, 3) := by decide +kernel
theorem d_C_danger_39 : decode prog_1_method_8_code 39 = .ok (.iload_n 2, 1) := by decide +kernel
theorem d_C_danger_40 : decode prog_1_method_8_code 40 = .ok (.aload_n 0, 1) := by decide +kernel
theorem d_C_danger_41 : decode prog_1_method_8_code 41 = .ok (.getfield 28, 3) := by decide +kernel
theorem d_C_danger_44 : decode prog_1_method_8_code 44 = .ok (.invokevirtual 136, 3) := by decide +kernel
theorem d_C_danger_47 : decode prog_1_method_8_code 47 = .ok (.if_icmp .ge 7, 3) := by decide +kernel
theorem d_C_danger_50 : decode prog_1_method_8_code 50 = .ok (.iconst 1, 1) := by decide +kernel
theorem d_C_danger_51 : decode prog_1_method_8_code 51 = .ok (.goto 4, 3) := by decide +kernel
theorem d_C_danger_54 : decode prog_1_method_8_code 54 = .ok (.iconst 0, 1) := by decide +kernel
theorem d_C_danger_55 : decode prog_1_method_8_code 55 = .ok (.istore 4, 2) := by decide +kernel
theorem d_C_danger_57 : decode prog_1_method_8_code 57 = .ok (.iload_n 3, 1) := by decide +kernel
theorem d_C_danger_58 : decode prog_1_method_8_code 58 = .ok (.ifCond .ne 14, 3) := by decide +kernel
theorem d_C_danger_61 : decode prog_1_method_8_code 61 = .ok (.iload_n 2, 1) := by decide +kernel
theorem d_C_danger_62 : decode prog_1_method_8_code 62 = .ok (.iconst 0, 1) := by decide +kernel
theorem d_C_danger_63 : decode prog_1_method_8_code 63 = .ok (.sipush 240, 3) := by decide +kernel
theorem d_C_danger_66 : decode prog_1_method_8_code 66 = .ok (.invokestatic 84, 3) := by decide +kernel
theorem d_C_danger_69 : decode prog_1_method_8_code 69 = .ok (.ifCond .eq 16, 3) := by decide +kernel
theorem d_C_danger_72 : decode prog_1_method_8_code 72 = .ok (.iload 4, 2) := by decide +kernel
theorem d_C_danger_74 : decode prog_1_method_8_code 74 = .ok (.ifCond .ne 11, 3) := by decide +kernel
theorem d_C_danger_77 : decode prog_1_method_8_code 77 = .ok (.aload_n 0, 1) := by decide +kernel
theorem d_C_danger_78 : decode prog_1_method_8_code 78 = .ok (.getfield 81, 3) := by decide +kernel
theorem d_C_danger_81 : decode prog_1_method_8_code 81 = .ok (.iconst 2, 1) := by decide +kernel
theorem d_C_danger_82 : decode prog_1_method_8_code 82 = .ok (.if_icmp .ne 10, 3) := by decide +kernel
theorem d_C_danger_85 : decode prog_1_method_8_code 85 = .ok (.aload_n 0, 1) := by decide +kernel
theorem d_C_danger_86 : decode prog_1_method_8_code 86 = .ok (.bipush (-6), 2) := by decide +kernel
theorem d_C_danger_88 : decode prog_1_method_8_code 88 = .ok (.invokevirtual 88, 3) := by decide +kernel
theorem d_C_danger_91 : decode prog_1_method_8_code 91 = .ok (.ireturn, 1) := by decide +kernel
theorem d_C_danger_92 : decode prog_1_method_8_code 92 = .ok (.aload_n 0, 1) := by decide +kernel
theorem d_C_danger_93 : decode prog_1_method_8_code 93 = .ok (.getfield 19, 3) := by decide +kernel
theorem d_C_danger_96 : decode prog_1_method_8_code 96 = .ok (.iload_n 1, 1) := by decide +kernel
theorem d_C_danger_97 : decode prog_1_method_8_code 97 = .ok (.iload_n 2, 1) := by decide +kernel
theorem d_C_danger_98 : decode prog_1_method_8_code 98 = .ok (.invokevirtual 139, 3) := by decide +kernel
theorem d_C_danger_101 : decode prog_1_method_8_code 101 = .ok (.istore 5, 2) := by decide +kernel
theorem d_C_danger_103 : decode prog_1_method_8_code 103 = .ok (.aload_n 0, 1) := by decide +kernel
theorem d_C_danger_104 : decode prog_1_method_8_code 104 = .ok (.getfield 81, 3) := by decide +kernel
theorem d_C_danger_107 : decode prog_1_method_8_code 107 = .ok (.iconst 1, 1) := by decide +kernel
theorem d_C_danger_108 : decode prog_1_method_8_code 108 = .ok (.if_icmp .ne 11, 3) := by decide +kernel
theorem d_C_danger_111 : decode prog_1_method_8_code 111 = .ok (.aload_n 0, 1) := by decide +kernel
theorem d_C_danger_112 : decode prog_1_method_8_code 112 = .ok (.getfield 28, 3) := by decide +kernel
theorem d_C_danger_115 : decode prog_1_method_8_code 115 = .ok (.invokevirtual 143, 3) := by decide +kernel
theorem d_C_danger_118 : decode prog_1_method_8_code 118 = .ok (.pop, 1) := by decide +kernel
theorem d_C_danger_119 : decode prog_1_method_8_code 119 = .ok (.iload 5, 2) := by decide +kernel
theorem d_C_danger_121 : decode prog_1_method_8_code 121 = .ok (.ireturn, 1) := by decide +kernel
theorem d_C_far_0 : decode prog_1_method_9_code 0 = .ok (.aload_n 0, 1) := by decide +kernel
theorem d_C_far_1 : decode prog_1_method_9_code 1 = .ok (.getfield 19, 3) := by decide +kernel
theorem d_C_far_4 : decode prog_1_method_9_code 4 = .ok (.iload_n 1, 1) := by decide +kernel
theorem d_C_far_5 : decode prog_1_method_9_code 5 = .ok (.invokevirtual 146, 3) := by decide +kernel
theorem d_C_far_8 : decode prog_1_method_9_code 8 = .ok (.ireturn, 1) := by decide +kernel
theorem d_C_row_0 : decode prog_1_method_10_code 0 = .ok (.iload_n 1, 1) := by decide +kernel
theorem d_C_row_1 : decode prog_1_method_10_code 1 = .ok (.invokestatic 149, 3) := by decide +kernel
theorem d_C_row_4 : decode prog_1_method_10_code 4 = .ok (.ifCond .ne 9, 3) := by decide +kernel
theorem d_C_row_7 : decode prog_1_method_10_code 7 = .ok (.aload_n 0, 1) := by decide +kernel
theorem d_C_row_8 : decode prog_1_method_10_code 8 = .ok (.iconst (-1), 1) := by decide +kernel
theorem d_C_row_9 : decode prog_1_method_10_code 9 = .ok (.invokevirtual 88, 3) := by decide +kernel
theorem d_C_row_12 : decode prog_1_method_10_code 12 = .ok (.ireturn, 1) := by decide +kernel
theorem d_C_row_13 : decode prog_1_method_10_code 13 = .ok (.iload_n 3, 1) := by decide +kernel
theorem d_C_row_14 : decode prog_1_method_10_code 14 = .ok (.ifCond .ge 10, 3) := by decide +kernel
theorem d_C_row_17 : decode prog_1_method_10_code 17 = .ok (.aload_n 0, 1) := by decide +kernel
theorem d_C_row_18 : decode prog_1_method_10_code 18 = .ok (.bipush (-4), 2) := by decide +kernel
theorem d_C_row_20 : decode prog_1_method_10_code 20 = .ok (.invokevirtual 88, 3) := by decide +kernel
theorem d_C_row_23 : decode prog_1_method_10_code 23 = .ok (.ireturn, 1) := by decide +kernel
theorem d_C_row_24 : decode prog_1_method_10_code 24 = .ok (.iload_n 2, 1) := by decide +kernel
theorem d_C_row_25 : decode prog_1_method_10_code 25 = .ok (.iconst 0, 1) := by decide +kernel
theorem d_C_row_26 : decode prog_1_method_10_code 26 = .ok (.iconst 3, 1) := by decide +kernel
theorem d_C_row_27 : decode prog_1_method_10_code 27 = .ok (.invokestatic 84, 3) := by decide +kernel
theorem d_C_row_30 : decode prog_1_method_10_code 30 = .ok (.ifCond .ne 10, 3) := by decide +kernel
theorem d_C_row_33 : decode prog_1_method_10_code 33 = .ok (.aload_n 0, 1) := by decide +kernel
theorem d_C_row_34 : decode prog_1_method_10_code 34 = .ok (.bipush (-6), 2) := by decide +kernel
theorem d_C_row_36 : decode prog_1_method_10_code 36 = .ok (.invokevirtual 88, 3) := by decide +kernel
theorem d_C_row_39 : decode prog_1_method_10_code 39 = .ok (.ireturn, 1) := by decide +kernel
theorem d_C_row_40 : decode prog_1_method_10_code 40 = .ok (.iload_n 3, 1) := by decide +kernel
theorem d_C_row_41 : decode prog_1_method_10_code 41 = .ok (.bipush 60, 2) := by decide +kernel
theorem d_C_row_43 : decode prog_1_method_10_code 43 = .ok (.if_icmp .le 10, 3) := by decide +kernel
theorem d_C_row_46 : decode prog_1_method_10_code 46 = .ok (.aload_n 0, 1) := by decide +kernel
theorem d_C_row_47 : decode prog_1_method_10_code 47 = .ok (.bipush (-7), 2) := by decide +kernel
theorem d_C_row_49 : decode prog_1_method_10_code 49 = .ok (.invokevirtual 88, 3) := by decide +kernel
theorem d_C_row_52 : decode prog_1_method_10_code 52 = .ok (.ireturn, 1) := by decide +kernel
theorem d_C_row_53 : decode prog_1_method_10_code 53 = .ok (.aload_n 0, 1) := by decide +kernel
theorem d_C_row_54 : decode prog_1_method_10_code 54 = .ok (.getfield 52, 3) := by decide +kernel
theorem d_C_row_57 : decode prog_1_method_10_code 57 = .ok (.iload_n 1, 1) := by decide +kernel
theorem d_C_row_58 : decode prog_1_method_10_code 58 = .ok (.aaload, 1) := by decide +kernel
theorem d_C_row_59 : decode prog_1_method_10_code 59 = .ok (.iload_n 2, 1) := by decide +kernel
theorem d_C_row_60 : decode prog_1_method_10_code 60 = .ok (.iload_n 3, 1) := by decide +kernel
theorem d_C_row_61 : decode prog_1_method_10_code 61 = .ok (.invokevirtual 153, 3) := by decide +kernel
theorem d_C_row_64 : decode prog_1_method_10_code 64 = .ok (.aload_n 0, 1) := by decide +kernel
theorem d_C_row_65 : decode prog_1_method_10_code 65 = .ok (.getfield 57, 3) := by decide +kernel
theorem d_C_row_68 : decode prog_1_method_10_code 68 = .ok (.iload_n 1, 1) := by decide +kernel
theorem d_C_row_69 : decode prog_1_method_10_code 69 = .ok (.bipush 100, 2) := by decide +kernel
theorem d_C_row_71 : decode prog_1_method_10_code 71 = .ok (.iload_n 2, 1) := by decide +kernel
theorem d_C_row_72 : decode prog_1_method_10_code 72 = .ok (.iadd, 1) := by decide +kernel
theorem d_C_row_73 : decode prog_1_method_10_code 73 = .ok (.iastore, 1) := by decide +kernel
theorem d_C_row_74 : decode prog_1_method_10_code 74 = .ok (.iconst 1, 1) := by decide +kernel
theorem d_C_row_75 : decode prog_1_method_10_code 75 = .ok (.ireturn, 1) := by decide +kernel
theorem d_C_set_0 : decode prog_1_method_11_code 0 = .ok (.aload_n 0, 1) := by decide +kernel
theorem d_C_set_1 : decode prog_1_method_11_code 1 = .ok (.iload_n 1, 1) := by decide +kernel
theorem d_C_set_2 : decode prog_1_method_11_code 2 = .ok (.invokevirtual 110, 3) := by decide +kernel
theorem d_C_set_5 : decode prog_1_method_11_code 5 = .ok (.astore 5, 2) := by decide +kernel
theorem d_C_set_7 : decode prog_1_method_11_code 7 = .ok (.aload 5, 2) := by decide +kernel
theorem d_C_set_9 : decode prog_1_method_11_code 9 = .ok (.ifnonnull 13, 3) := by decide +kernel
theorem d_C_set_12 : decode prog_1_method_11_code 12 = .ok (.aload_n 0, 1) := by decide +kernel
theorem d_C_set_13 : decode prog_1_method_11_code 13 = .ok (.aload_n 0, 1) := by decide +kernel
theorem d_C_set_14 : decode prog_1_method_11_code 14 = .ok (.iload_n 1, 1) := by decide +kernel
theorem d_C_set_15 : decode prog_1_method_11_code 15 = .ok (.invokevirtual 114, 3) := by decide +kernel
theorem d_C_set_18 : decode prog_1_method_11_code 18 = .ok (.invokevirtual 88, 3) := by decide +kernel
theorem d_C_set_21 : decode prog_1_method_11_code 21 = .ok (.ireturn, 1) := by decide +kernel
theorem d_C_set_22 : decode prog_1_method_11_code 22 = .ok (.aload 5, 2) := by decide +kernel
theorem d_C_set_24 : decode prog_1_method_11_code 24 = .ok (.iload_n 2, 1) := by decide +kernel
theorem d_C_set_25 : decode prog_1_method_11_code 25 = .ok (.invokevirtual 157, 3) := by decide +kernel
theorem d_C_set_28 : decode prog_1_method_11_code 28 = .ok (.ifCond .ne 10, 3) := by decide +kernel
theorem d_C_set_31 : decode prog_1_method_11_code 31 = .ok (.aload_n 0, 1) := by decide +kernel
theorem d_C_set_32 : decode prog_1_method_11_code 32 = .ok (.bipush (-5), 2) := by decide +kernel
theorem d_C_set_34 : decode prog_1_method_11_code 34 = .ok (.invokevirtual 88, 3) := by decide +kernel
theorem d_C_set_37 : decode prog_1_method_11_code 37 = .ok (.ireturn, 1) := by decide +kernel
theorem d_C_set_38 : decode prog_1_method_11_code 38 = .ok (.aload 5, 2) := by decide +kernel
theorem d_C_set_40 : decode prog_1_method_11_code 40 = .ok (.iload_n 2, 1) := by decide +kernel
theorem d_C_set_41 : decode prog_1_method_11_code 41 = .ok (.lload_n 3, 1) := by decide +kernel
theorem d_C_set_42 : decode prog_1_method_11_code 42 = .ok (.invokevirtual 160, 3) := by decide +kernel
theorem d_C_set_45 : decode prog_1_method_11_code 45 = .ok (.iconst 1, 1) := by decide +kernel
theorem d_C_set_46 : decode prog_1_method_11_code 46 = .ok (.ireturn, 1) := by decide +kernel
theorem d_C_copy_0 : decode prog_1_method_12_code 0 = .ok (.aload_n 0, 1) := by decide +kernel
theorem d_C_copy_1 : decode prog_1_method_12_code 1 = .ok (.iload_n 1, 1) := by decide +kernel
theorem d_C_copy_2 : decode prog_1_method_12_code 2 = .ok (.iload_n 2, 1) := by decide +kernel
theorem d_C_copy_3 : decode prog_1_method_12_code 3 = .ok (.iload_n 2, 1) := by decide +kernel
theorem d_C_copy_4 : decode prog_1_method_12_code 4 = .ok (.invokevirtual 164, 3) := by decide +kernel
theorem d_C_copy_7 : decode prog_1_method_12_code 7 = .ok (.istore 6, 2) := by decide +kernel
theorem d_C_copy_9 : decode prog_1_method_12_code 9 = .ok (.iload 6, 2) := by decide +kernel
theorem d_C_copy_11 : decode prog_1_method_12_code 11 = .ok (.iconst (-1), 1) := by decide +kernel
theorem d_C_copy_12 : decode prog_1_method_12_code 12 = .ok (.if_icmp .eq 10, 3) := by decide +kernel
theorem d_C_copy_15 : decode prog_1_method_12_code 15 = .ok (.iload 6, 2) := by decide +kernel
theorem d_C_copy_17 : decode prog_1_method_12_code 17 = .ok (.bipush (-2), 2) := by decide +kernel
theorem d_C_copy_19 : decode prog_1_method_12_code 19 = .ok (.if_icmp .ne 10, 3) := by decide +kernel
theorem d_C_copy_22 : decode prog_1_method_12_code 22 = .ok (.aload_n 0, 1) := by decide +kernel
theorem d_C_copy_23 : decode prog_1_method_12_code 23 = .ok (.iload 6, 2) := by decide +kernel
theorem d_C_copy_25 : decode prog_1_method_12_code 25 = .ok (.invokevirtual 88, 3) := by decide +kernel
theorem d_C_copy_28 : decode prog_1_method_12_code 28 = .ok (.ireturn, 1) := by decide +kernel
theorem d_C_copy_29 : decode prog_1_method_12_code 29 = .ok (.aload_n 0, 1) := by decide +kernel
theorem d_C_copy_30 : decode prog_1_method_12_code 30 = .ok (.iload_n 1, 1) := by decide +kernel
theorem d_C_copy_31 : decode prog_1_method_12_code 31 = .ok (.invokevirtual 110, 3) := by decide +kernel
theorem d_C_copy_34 : decode prog_1_method_12_code 34 = .ok (.astore 7, 2) := by decide +kernel
theorem d_C_copy_36 : decode prog_1_method_12_code 36 = .ok (.aload_n 0, 1) := by decide +kernel
theorem d_C_copy_37 : decode prog_1_method_12_code 37 = .ok (.iload_n 2, 1) := by decide +kernel
theorem d_C_copy_38 : decode prog_1_method_12_code 38 = .ok (.invokevirtual 110, 3) := by decide +kernel
theorem d_C_copy_41 : decode prog_1_method_12_code 41 = .ok (.astore 8, 2) := by decide +kernel
theorem d_C_copy_43 : decode prog_1_method_12_code 43 = .ok (.aload 7, 2) := by decide +kernel
theorem d_C_copy_45 : decode prog_1_method_12_code 45 = .ok (.ifnull 8, 3) := by decide +kernel
theorem d_C_copy_48 : decode prog_1_method_12_code 48 = .ok (.aload 8, 2) := by decide +kernel
theorem d_C_copy_50 : decode prog_1_method_12_code 50 = .ok (.ifnonnull 10, 3) := by decide +kernel
theorem d_C_copy_53 : decode prog_1_method_12_code 53 = .ok (.aload_n 0, 1) := by decide +kernel
theorem d_C_copy_54 : decode prog_1_method_12_code 54 = .ok (.bipush (-3), 2) := by decide +kernel
theorem d_C_copy_56 : decode prog_1_method_12_code 56 = .ok (.invokevirtual 88, 3) := by decide +kernel
theorem d_C_copy_59 : decode prog_1_method_12_code 59 = .ok (.ireturn, 1) := by decide +kernel
theorem d_C_copy_60 : decode prog_1_method_12_code 60 = .ok (.aload 7, 2) := by decide +kernel
theorem d_C_copy_62 : decode prog_1_method_12_code 62 = .ok (.invokevirtual 167, 3) := by decide +kernel
theorem d_C_copy_65 : decode prog_1_method_12_code 65 = .ok (.aload 8, 2) := by decide +kernel
theorem d_C_copy_67 : decode prog_1_method_12_code 67 = .ok (.invokevirtual 167, 3) := by decide +kernel
theorem d_C_copy_70 : decode prog_1_method_12_code 70 = .ok (.if_icmp .eq 10, 3) := by decide +kernel
theorem d_C_copy_73 : decode prog_1_method_12_code 73 = .ok (.aload_n 0, 1) := by decide +kernel
theorem d_C_copy_74 : decode prog_1_method_12_code 74 = .ok (.bipush (-2), 2) := by decide +kernel
theorem d_C_copy_76 : decode prog_1_method_12_code 76 = .ok (.invokevirtual 88, 3) := by decide +kernel
theorem d_C_copy_79 : decode prog_1_method_12_code 79 = .ok (.ireturn, 1) := by decide +kernel
theorem d_C_copy_80 : decode prog_1_method_12_code 80 = .ok (.iload 5, 2) := by decide +kernel
theorem d_C_copy_82 : decode prog_1_method_12_code 82 = .ok (.ifCond .ge 10, 3) := by decide +kernel
theorem d_C_copy_85 : decode prog_1_method_12_code 85 = .ok (.aload_n 0, 1) := by decide +kernel
theorem d_C_copy_86 : decode prog_1_method_12_code 86 = .ok (.bipush (-4), 2) := by decide +kernel
theorem d_C_copy_88 : decode prog_1_method_12_code 88 = .ok (.invokevirtual 88, 3) := by decide +kernel
theorem d_C_copy_91 : decode prog_1_method_12_code 91 = .ok (.ireturn, 1) := by decide +kernel
theorem d_C_copy_92 : decode prog_1_method_12_code 92 = .ok (.aload 7, 2) := by decide +kernel
theorem d_C_copy_94 : decode prog_1_method_12_code 94 = .ok (.iload_n 3, 1) := by decide +kernel
theorem d_C_copy_95 : decode prog_1_method_12_code 95 = .ok (.iload 5, 2) := by decide +kernel
theorem d_C_copy_97 : decode prog_1_method_12_code 97 = .ok (.invokevirtual 170, 3) := by decide +kernel
theorem d_C_copy_100 : decode prog_1_method_12_code 100 = .ok (.ifCond .eq 15, 3) := by decide +kernel
theorem d_C_copy_103 : decode prog_1_method_12_code 103 = .ok (.aload 8, 2) := by decide +kernel
theorem d_C_copy_105 : decode prog_1_method_12_code 105 = .ok (.iload 4, 2) := by decide +kernel
theorem d_C_copy_107 : decode prog_1_method_12_code 107 = .ok (.iload 5, 2) := by decide +kernel
theorem d_C_copy_109 : decode prog_1_method_12_code 109 = .ok (.invokevirtual 170, 3) := by decide +kernel
theorem d_C_copy_112 : decode prog_1_method_12_code 112 = .ok (.ifCond .ne 10, 3) := by decide +kernel
theorem d_C_copy_115 : decode prog_1_method_12_code 115 = .ok (.aload_n 0, 1) := by decide +kernel
theorem d_C_copy_116 : decode prog_1_method_12_code 116 = .ok (.bipush (-5), 2) := by decide +kernel
theorem d_C_copy_118 : decode prog_1_method_12_code 118 = .ok (.invokevirtual 88, 3) := by decide +kernel
theorem d_C_copy_121 : decode prog_1_method_12_code 121 = .ok (.ireturn, 1) := by decide +kernel
theorem d_C_copy_122 : decode prog_1_method_12_code 122 = .ok (.aload 8, 2) := by decide +kernel
theorem d_C_copy_124 : decode prog_1_method_12_code 124 = .ok (.iload 4, 2) := by decide +kernel
theorem d_C_copy_126 : decode prog_1_method_12_code 126 = .ok (.aload 7, 2) := by decide +kernel
theorem d_C_copy_128 : decode prog_1_method_12_code 128 = .ok (.iload_n 3, 1) := by decide +kernel
theorem d_C_copy_129 : decode prog_1_method_12_code 129 = .ok (.iload 5, 2) := by decide +kernel
theorem d_C_copy_131 : decode prog_1_method_12_code 131 = .ok (.invokevirtual 174, 3) := by decide +kernel
theorem d_C_copy_134 : decode prog_1_method_12_code 134 = .ok (.iconst 1, 1) := by decide +kernel
theorem d_C_copy_135 : decode prog_1_method_12_code 135 = .ok (.ireturn, 1) := by decide +kernel
theorem d_C_element_0 : decode prog_1_method_13_code 0 = .ok (.aload_n 0, 1) := by decide +kernel
theorem d_C_element_1 : decode prog_1_method_13_code 1 = .ok (.iload_n 1, 1) := by decide +kernel
theorem d_C_element_2 : decode prog_1_method_13_code 2 = .ok (.invokevirtual 110, 3) := by decide +kernel
theorem d_C_element_5 : decode prog_1_method_13_code 5 = .ok (.astore_n 3, 1) := by decide +kernel
theorem d_C_element_6 : decode prog_1_method_13_code 6 = .ok (.aload_n 3, 1) := by decide +kernel
theorem d_C_element_7 : decode prog_1_method_13_code 7 = .ok (.ifnonnull 7, 3) := by decide +kernel
theorem d_C_element_10 : decode prog_1_method_13_code 10 = .ok (.lconst 0, 1) := by decide +kernel
theorem d_C_element_11 : decode prog_1_method_13_code 11 = .ok (.goto 8, 3) := by decide +kernel
theorem d_C_element_14 : decode prog_1_method_13_code 14 = .ok (.aload_n 3, 1) := by decide +kernel
theorem d_C_element_15 : decode prog_1_method_13_code 15 = .ok (.iload_n 2, 1) := by decide +kernel
theorem d_C_element_16 : decode prog_1_method_13_code 16 = .ok (.invokevirtual 178, 3) := by decide +kernel
theorem d_C_element_19 : decode prog_1_method_13_code 19 = .ok (.lreturn, 1) := by decide +kernel
theorem d_C_show_0 : decode prog_1_method_14_code 0 = .ok (.iload_n 1, 1) := by decide +kernel
theorem d_C_show_1 : decode prog_1_method_14_code 1 = .ok (.invokestatic 149, 3) := by decide +kernel
theorem d_C_show_4 : decode prog_1_method_14_code 4 = .ok (.ifCond .eq 16, 3) := by decide +kernel
theorem d_C_show_7 : decode prog_1_method_14_code 7 = .ok (.iload_n 2, 1) := by decide +kernel
theorem d_C_show_8 : decode prog_1_method_14_code 8 = .ok (.iconst (-1), 1) := by decide +kernel
theorem d_C_show_9 : decode prog_1_method_14_code 9 = .ok (.if_icmp .eq 17, 3) := by decide +kernel
theorem d_C_show_12 : decode prog_1_method_14_code 12 = .ok (.aload_n 0, 1) := by decide +kernel
theorem d_C_show_13 : decode prog_1_method_14_code 13 = .ok (.iload_n 2, 1) := by decide +kernel
theorem d_C_show_14 : decode prog_1_method_14_code 14 = .ok (.invokevirtual 182, 3) := by decide +kernel
theorem d_C_show_17 : decode prog_1_method_14_code 17 = .ok (.ifnonnull 9, 3) := by decide +kernel
theorem d_C_show_20 : decode prog_1_method_14_code 20 = .ok (.aload_n 0, 1) := by decide +kernel
theorem d_C_show_21 : decode prog_1_method_14_code 21 = .ok (.iconst (-1), 1) := by decide +kernel
theorem d_C_show_22 : decode prog_1_method_14_code 22 = .ok (.invokevirtual 88, 3) := by decide +kernel
theorem d_C_show_25 : decode prog_1_method_14_code 25 = .ok (.ireturn, 1) := by decide +kernel
theorem d_C_show_26 : decode prog_1_method_14_code 26 = .ok (.aload_n 0, 1) := by decide +kernel
theorem d_C_show_27 : decode prog_1_method_14_code 27 = .ok (.getfield 57, 3) := by decide +kernel
theorem d_C_show_30 : decode prog_1_method_14_code 30 = .ok (.iload_n 1, 1) := by decide +kernel
theorem d_C_show_31 : decode prog_1_method_14_code 31 = .ok (.iload_n 2, 1) := by decide +kernel
theorem d_C_show_32 : decode prog_1_method_14_code 32 = .ok (.iastore, 1) := by decide +kernel
theorem d_C_show_33 : decode prog_1_method_14_code 33 = .ok (.iload_n 2, 1) := by decide +kernel
theorem d_C_show_34 : decode prog_1_method_14_code 34 = .ok (.iconst (-1), 1) := by decide +kernel
theorem d_C_show_35 : decode prog_1_method_14_code 35 = .ok (.if_icmp .ne 7, 3) := by decide +kernel
theorem d_C_show_38 : decode prog_1_method_14_code 38 = .ok (.iconst 0, 1) := by decide +kernel
theorem d_C_show_39 : decode prog_1_method_14_code 39 = .ok (.goto 4, 3) := by decide +kernel
theorem d_C_show_42 : decode prog_1_method_14_code 42 = .ok (.iconst 1, 1) := by decide +kernel
theorem d_C_show_43 : decode prog_1_method_14_code 43 = .ok (.ireturn, 1) := by decide +kernel
theorem d_C_holds_0 : decode prog_1_method_15_code 0 = .ok (.iload_n 1, 1) := by decide +kernel
theorem d_C_holds_1 : decode prog_1_method_15_code 1 = .ok (.invokestatic 149, 3) := by decide +kernel
theorem d_C_holds_4 : decode prog_1_method_15_code 4 = .ok (.ifCond .eq 12, 3) := by decide +kernel
theorem d_C_holds_7 : decode prog_1_method_15_code 7 = .ok (.aload_n 0, 1) := by decide +kernel
theorem d_C_holds_8 : decode prog_1_method_15_code 8 = .ok (.getfield 57, 3) := by decide +kernel
theorem d_C_holds_11 : decode prog_1_method_15_code 11 = .ok (.iload_n 1, 1) := by decide +kernel
theorem d_C_holds_12 : decode prog_1_method_15_code 12 = .ok (.iaload, 1) := by decide +kernel
theorem d_C_holds_13 : decode prog_1_method_15_code 13 = .ok (.goto 4, 3) := by decide +kernel
theorem d_C_holds_16 : decode prog_1_method_15_code 16 = .ok (.iconst (-1), 1) := by decide +kernel
theorem d_C_holds_17 : decode prog_1_method_15_code 17 = .ok (.ireturn, 1) := by decide +kernel
theorem d_C_worthIn_0 : decode prog_1_method_16_code 0 = .ok (.iload_n 1, 1) := by decide +kernel
theorem d_C_worthIn_1 : decode prog_1_method_16_code 1 = .ok (.invokestatic 149, 3) := by decide +kernel
theorem d_C_worthIn_4 : decode prog_1_method_16_code 4 = .ok (.ifCond .ne 9, 3) := by decide +kernel
theorem d_C_worthIn_7 : decode prog_1_method_16_code 7 = .ok (.aload_n 0, 1) := by decide +kernel
theorem d_C_worthIn_8 : decode prog_1_method_16_code 8 = .ok (.iconst (-1), 1) := by decide +kernel
theorem d_C_worthIn_9 : decode prog_1_method_16_code 9 = .ok (.invokevirtual 88, 3) := by decide +kernel
theorem d_C_worthIn_12 : decode prog_1_method_16_code 12 = .ok (.ireturn, 1) := by decide +kernel
theorem d_C_worthIn_13 : decode prog_1_method_16_code 13 = .ok (.aload_n 0, 1) := by decide +kernel
theorem d_C_worthIn_14 : decode prog_1_method_16_code 14 = .ok (.getfield 57, 3) := by decide +kernel
theorem d_C_worthIn_17 : decode prog_1_method_16_code 17 = .ok (.iload_n 1, 1) := by decide +kernel
theorem d_C_worthIn_18 : decode prog_1_method_16_code 18 = .ok (.iaload, 1) := by decide +kernel
theorem d_C_worthIn_19 : decode prog_1_method_16_code 19 = .ok (.iconst (-1), 1) := by decide +kernel
theorem d_C_worthIn_20 : decode prog_1_method_16_code 20 = .ok (.if_icmp .ne 10, 3) := by decide +kernel
theorem d_C_worthIn_23 : decode prog_1_method_16_code 23 = .ok (.aload_n 0, 1) := by decide +kernel
theorem d_C_worthIn_24 : decode prog_1_method_16_code 24 = .ok (.bipush (-3), 2) := by decide +kernel
theorem d_C_worthIn_26 : decode prog_1_method_16_code 26 = .ok (.invokevirtual 88, 3) := by decide +kernel
theorem d_C_worthIn_29 : decode prog_1_method_16_code 29 = .ok (.ireturn, 1) := by decide +kernel
theorem d_C_worthIn_30 : decode prog_1_method_16_code 30 = .ok (.aload_n 0, 1) := by decide +kernel
theorem d_C_worthIn_31 : decode prog_1_method_16_code 31 = .ok (.aload_n 0, 1) := by decide +kernel
theorem d_C_worthIn_32 : decode prog_1_method_16_code 32 = .ok (.getfield 57, 3) := by decide +kernel
theorem d_C_worthIn_35 : decode prog_1_method_16_code 35 = .ok (.iload_n 1, 1) := by decide +kernel
theorem d_C_worthIn_36 : decode prog_1_method_16_code 36 = .ok (.iaload, 1) := by decide +kernel
theorem d_C_worthIn_37 : decode prog_1_method_16_code 37 = .ok (.invokevirtual 182, 3) := by decide +kernel
theorem d_C_worthIn_40 : decode prog_1_method_16_code 40 = .ok (.astore_n 2, 1) := by decide +kernel
theorem d_C_worthIn_41 : decode prog_1_method_16_code 41 = .ok (.aload_n 2, 1) := by decide +kernel
theorem d_C_worthIn_42 : decode prog_1_method_16_code 42 = .ok (.ifnonnull 12, 3) := by decide +kernel
theorem d_C_worthIn_45 : decode prog_1_method_16_code 45 = .ok (.aload_n 0, 1) := by decide +kernel
theorem d_C_worthIn_46 : decode prog_1_method_16_code 46 = .ok (.bipush (-2), 2) := by decide +kernel
theorem d_C_worthIn_48 : decode prog_1_method_16_code 48 = .ok (.invokevirtual 88, 3) := by decide +kernel
theorem d_C_worthIn_51 : decode prog_1_method_16_code 51 = .ok (.goto 7, 3) := by decide +kernel
theorem d_C_worthIn_54 : decode prog_1_method_16_code 54 = .ok (.aload_n 2, 1) := by decide +kernel
theorem d_C_worthIn_55 : decode prog_1_method_16_code 55 = .ok (.invokevirtual 186, 3) := by decide +kernel
theorem d_C_worthIn_58 : decode prog_1_method_16_code 58 = .ok (.ireturn, 1) := by decide +kernel
theorem d_C_isShelf_0 : decode prog_1_method_17_code 0 = .ok (.iload_n 0, 1) := by decide +kernel
theorem d_C_isShelf_1 : decode prog_1_method_17_code 1 = .ok (.iconst 0, 1) := by decide +kernel
theorem d_C_isShelf_2 : decode prog_1_method_17_code 2 = .ok (.bipush 7, 2) := by decide +kernel
theorem d_C_isShelf_4 : decode prog_1_method_17_code 4 = .ok (.invokestatic 84, 3) := by decide +kernel
theorem d_C_isShelf_7 : decode prog_1_method_17_code 7 = .ok (.ireturn, 1) := by decide +kernel
theorem d_C_isEmpty_0 : decode prog_1_method_18_code 0 = .ok (.iload_n 1, 1) := by decide +kernel
theorem d_C_isEmpty_1 : decode prog_1_method_18_code 1 = .ok (.invokestatic 149, 3) := by decide +kernel
theorem d_C_isEmpty_4 : decode prog_1_method_18_code 4 = .ok (.ifCond .eq 17, 3) := by decide +kernel
theorem d_C_isEmpty_7 : decode prog_1_method_18_code 7 = .ok (.aload_n 0, 1) := by decide +kernel
theorem d_C_isEmpty_8 : decode prog_1_method_18_code 8 = .ok (.getfield 57, 3) := by decide +kernel
theorem d_C_isEmpty_11 : decode prog_1_method_18_code 11 = .ok (.iload_n 1, 1) := by decide +kernel
theorem d_C_isEmpty_12 : decode prog_1_method_18_code 12 = .ok (.iaload, 1) := by decide +kernel
theorem d_C_isEmpty_13 : decode prog_1_method_18_code 13 = .ok (.iconst (-1), 1) := by decide +kernel
theorem d_C_isEmpty_14 : decode prog_1_method_18_code 14 = .ok (.if_icmp .ne 7, 3) := by decide +kernel
theorem d_C_isEmpty_17 : decode prog_1_method_18_code 17 = .ok (.iconst 1, 1) := by decide +kernel
theorem d_C_isEmpty_18 : decode prog_1_method_18_code 18 = .ok (.goto 4, 3) := by decide +kernel
theorem d_C_isEmpty_21 : decode prog_1_method_18_code 21 = .ok (.iconst 0, 1) := by decide +kernel
theorem d_C_isEmpty_22 : decode prog_1_method_18_code 22 = .ok (.ireturn, 1) := by decide +kernel
theorem d_C_showsThing_0 : decode prog_1_method_19_code 0 = .ok (.iload_n 1, 1) := by decide +kernel
theorem d_C_showsThing_1 : decode prog_1_method_19_code 1 = .ok (.invokestatic 149, 3) := by decide +kernel
theorem d_C_showsThing_4 : decode prog_1_method_19_code 4 = .ok (.ifCond .eq 22, 3) := by decide +kernel
theorem d_C_showsThing_7 : decode prog_1_method_19_code 7 = .ok (.aload_n 0, 1) := by decide +kernel
theorem d_C_showsThing_8 : decode prog_1_method_19_code 8 = .ok (.getfield 57, 3) := by decide +kernel
theorem d_C_showsThing_11 : decode prog_1_method_19_code 11 = .ok (.iload_n 1, 1) := by decide +kernel
theorem d_C_showsThing_12 : decode prog_1_method_19_code 12 = .ok (.iaload, 1) := by decide +kernel
theorem d_C_showsThing_13 : decode prog_1_method_19_code 13 = .ok (.iconst 0, 1) := by decide +kernel
theorem d_C_showsThing_14 : decode prog_1_method_19_code 14 = .ok (.bipush 15, 2) := by decide +kernel
theorem d_C_showsThing_16 : decode prog_1_method_19_code 16 = .ok (.invokestatic 84, 3) := by decide +kernel
theorem d_C_showsThing_19 : decode prog_1_method_19_code 19 = .ok (.ifCond .eq 7, 3) := by decide +kernel
theorem d_C_showsThing_22 : decode prog_1_method_19_code 22 = .ok (.iconst 1, 1) := by decide +kernel
theorem d_C_showsThing_23 : decode prog_1_method_19_code 23 = .ok (.goto 4, 3) := by decide +kernel
theorem d_C_showsThing_26 : decode prog_1_method_19_code 26 = .ok (.iconst 0, 1) := by decide +kernel
theorem d_C_showsThing_27 : decode prog_1_method_19_code 27 = .ok (.ireturn, 1) := by decide +kernel
theorem d_C_rowIn_0 : decode prog_1_method_20_code 0 = .ok (.iload_n 1, 1) := by decide +kernel
theorem d_C_rowIn_1 : decode prog_1_method_20_code 1 = .ok (.invokestatic 149, 3) := by decide +kernel
theorem d_C_rowIn_4 : decode prog_1_method_20_code 4 = .ok (.ifCond .eq 23, 3) := by decide +kernel
theorem d_C_rowIn_7 : decode prog_1_method_20_code 7 = .ok (.aload_n 0, 1) := by decide +kernel
theorem d_C_rowIn_8 : decode prog_1_method_20_code 8 = .ok (.getfield 57, 3) := by decide +kernel
theorem d_C_rowIn_11 : decode prog_1_method_20_code 11 = .ok (.iload_n 1, 1) := by decide +kernel
theorem d_C_rowIn_12 : decode prog_1_method_20_code 12 = .ok (.iaload, 1) := by decide +kernel
theorem d_C_rowIn_13 : decode prog_1_method_20_code 13 = .ok (.bipush 100, 2) := by decide +kernel
theorem d_C_rowIn_15 : decode prog_1_method_20_code 15 = .ok (.if_icmp .lt 12, 3) := by decide +kernel
theorem d_C_rowIn_18 : decode prog_1_method_20_code 18 = .ok (.aload_n 0, 1) := by decide +kernel
theorem d_C_rowIn_19 : decode prog_1_method_20_code 19 = .ok (.getfield 52, 3) := by decide +kernel
theorem d_C_rowIn_22 : decode prog_1_method_20_code 22 = .ok (.iload_n 1, 1) := by decide +kernel
theorem d_C_rowIn_23 : decode prog_1_method_20_code 23 = .ok (.aaload, 1) := by decide +kernel
theorem d_C_rowIn_24 : decode prog_1_method_20_code 24 = .ok (.goto 4, 3) := by decide +kernel
theorem d_C_rowIn_27 : decode prog_1_method_20_code 27 = .ok (.aconst_null, 1) := by decide +kernel
theorem d_C_rowIn_28 : decode prog_1_method_20_code 28 = .ok (.areturn, 1) := by decide +kernel
theorem d_C_whyNoRow_0 : decode prog_1_method_21_code 0 = .ok (.aload_n 0, 1) := by decide +kernel
theorem d_C_whyNoRow_1 : decode prog_1_method_21_code 1 = .ok (.iload_n 1, 1) := by decide +kernel
theorem d_C_whyNoRow_2 : decode prog_1_method_21_code 2 = .ok (.iload_n 1, 1) := by decide +kernel
theorem d_C_whyNoRow_3 : decode prog_1_method_21_code 3 = .ok (.iload_n 1, 1) := by decide +kernel
theorem d_C_whyNoRow_4 : decode prog_1_method_21_code 4 = .ok (.invokevirtual 164, 3) := by decide +kernel
theorem d_C_whyNoRow_7 : decode prog_1_method_21_code 7 = .ok (.ireturn, 1) := by decide +kernel
theorem d_C_firstOf_0 : decode prog_1_method_22_code 0 = .ok (.iload_n 0, 1) := by decide +kernel
theorem d_C_firstOf_1 : decode prog_1_method_22_code 1 = .ok (.ifCond .eq 7, 3) := by decide +kernel
theorem d_C_firstOf_4 : decode prog_1_method_22_code 4 = .ok (.iconst (-1), 1) := by decide +kernel
theorem d_C_firstOf_5 : decode prog_1_method_22_code 5 = .ok (.goto 22, 3) := by decide +kernel
theorem d_C_firstOf_8 : decode prog_1_method_22_code 8 = .ok (.iload_n 1, 1) := by decide +kernel
theorem d_C_firstOf_9 : decode prog_1_method_22_code 9 = .ok (.ifCond .eq 8, 3) := by decide +kernel
theorem d_C_firstOf_12 : decode prog_1_method_22_code 12 = .ok (.bipush (-2), 2) := by decide +kernel
theorem d_C_firstOf_14 : decode prog_1_method_22_code 14 = .ok (.goto 13, 3) := by decide +kernel
theorem d_C_firstOf_17 : decode prog_1_method_22_code 17 = .ok (.iload_n 2, 1) := by decide +kernel
theorem d_C_firstOf_18 : decode prog_1_method_22_code 18 = .ok (.ifCond .eq 8, 3) := by decide +kernel
theorem d_C_firstOf_21 : decode prog_1_method_22_code 21 = .ok (.bipush (-3), 2) := by decide +kernel
theorem d_C_firstOf_23 : decode prog_1_method_22_code 23 = .ok (.goto 4, 3) := by decide +kernel
theorem d_C_firstOf_26 : decode prog_1_method_22_code 26 = .ok (.iconst 0, 1) := by decide +kernel
theorem d_C_firstOf_27 : decode prog_1_method_22_code 27 = .ok (.ireturn, 1) := by decide +kernel
theorem d_C_whyNoRows_0 : decode prog_1_method_23_code 0 = .ok (.iload_n 1, 1) := by decide +kernel
theorem d_C_whyNoRows_1 : decode prog_1_method_23_code 1 = .ok (.invokestatic 149, 3) := by decide +kernel
theorem d_C_whyNoRows_4 : decode prog_1_method_23_code 4 = .ok (.ifCond .eq 17, 3) := by decide +kernel
theorem d_C_whyNoRows_7 : decode prog_1_method_23_code 7 = .ok (.iload_n 2, 1) := by decide +kernel
theorem d_C_whyNoRows_8 : decode prog_1_method_23_code 8 = .ok (.invokestatic 149, 3) := by decide +kernel
theorem d_C_whyNoRows_11 : decode prog_1_method_23_code 11 = .ok (.ifCond .eq 10, 3) := by decide +kernel
theorem d_C_whyNoRows_14 : decode prog_1_method_23_code 14 = .ok (.iload_n 3, 1) := by decide +kernel
theorem d_C_whyNoRows_15 : decode prog_1_method_23_code 15 = .ok (.invokestatic 149, 3) := by decide +kernel
theorem d_C_whyNoRows_18 : decode prog_1_method_23_code 18 = .ok (.ifCond .ne 7, 3) := by decide +kernel
theorem d_C_whyNoRows_21 : decode prog_1_method_23_code 21 = .ok (.iconst 1, 1) := by decide +kernel
theorem d_C_whyNoRows_22 : decode prog_1_method_23_code 22 = .ok (.goto 4, 3) := by decide +kernel
theorem d_C_whyNoRows_25 : decode prog_1_method_23_code 25 = .ok (.iconst 0, 1) := by decide +kernel
theorem d_C_whyNoRows_26 : decode prog_1_method_23_code 26 = .ok (.aload_n 0, 1) := by decide +kernel
theorem d_C_whyNoRows_27 : decode prog_1_method_23_code 27 = .ok (.iload_n 1, 1) := by decide +kernel
theorem d_C_whyNoRows_28 : decode prog_1_method_23_code 28 = .ok (.invokevirtual 189, 3) := by decide +kernel
theorem d_C_whyNoRows_31 : decode prog_1_method_23_code 31 = .ok (.ifCond .ne 19, 3) := by decide +kernel
theorem d_C_whyNoRows_34 : decode prog_1_method_23_code 34 = .ok (.aload_n 0, 1) := by decide +kernel
theorem d_C_whyNoRows_35 : decode prog_1_method_23_code 35 = .ok (.iload_n 2, 1) := by decide +kernel
theorem d_C_whyNoRows_36 : decode prog_1_method_23_code 36 = .ok (.invokevirtual 189, 3) := by decide +kernel
theorem d_C_whyNoRows_39 : decode prog_1_method_23_code 39 = .ok (.ifCond .ne 11, 3) := by decide +kernel
theorem d_C_whyNoRows_42 : decode prog_1_method_23_code 42 = .ok (.aload_n 0, 1) := by decide +kernel
theorem d_C_whyNoRows_43 : decode prog_1_method_23_code 43 = .ok (.iload_n 3, 1) := by decide +kernel
theorem d_C_whyNoRows_44 : decode prog_1_method_23_code 44 = .ok (.invokevirtual 189, 3) := by decide +kernel
theorem d_C_whyNoRows_47 : decode prog_1_method_23_code 47 = .ok (.ifCond .eq 7, 3) := by decide +kernel
theorem d_C_whyNoRows_50 : decode prog_1_method_23_code 50 = .ok (.iconst 1, 1) := by decide +kernel
theorem d_C_whyNoRows_51 : decode prog_1_method_23_code 51 = .ok (.goto 4, 3) := by decide +kernel
theorem d_C_whyNoRows_54 : decode prog_1_method_23_code 54 = .ok (.iconst 0, 1) := by decide +kernel
theorem d_C_whyNoRows_55 : decode prog_1_method_23_code 55 = .ok (.aload_n 0, 1) := by decide +kernel
theorem d_C_whyNoRows_56 : decode prog_1_method_23_code 56 = .ok (.iload_n 1, 1) := by decide +kernel
theorem d_C_whyNoRows_57 : decode prog_1_method_23_code 57 = .ok (.invokevirtual 192, 3) := by decide +kernel
theorem d_C_whyNoRows_60 : decode prog_1_method_23_code 60 = .ok (.ifCond .ne 19, 3) := by decide +kernel
theorem d_C_whyNoRows_63 : decode prog_1_method_23_code 63 = .ok (.aload_n 0, 1) := by decide +kernel
theorem d_C_whyNoRows_64 : decode prog_1_method_23_code 64 = .ok (.iload_n 2, 1) := by decide +kernel
theorem d_C_whyNoRows_65 : decode prog_1_method_23_code 65 = .ok (.invokevirtual 192, 3) := by decide +kernel
theorem d_C_whyNoRows_68 : decode prog_1_method_23_code 68 = .ok (.ifCond .ne 11, 3) := by decide +kernel
theorem d_C_whyNoRows_71 : decode prog_1_method_23_code 71 = .ok (.aload_n 0, 1) := by decide +kernel
theorem d_C_whyNoRows_72 : decode prog_1_method_23_code 72 = .ok (.iload_n 3, 1) := by decide +kernel
theorem d_C_whyNoRows_73 : decode prog_1_method_23_code 73 = .ok (.invokevirtual 192, 3) := by decide +kernel
theorem d_C_whyNoRows_76 : decode prog_1_method_23_code 76 = .ok (.ifCond .eq 7, 3) := by decide +kernel
theorem d_C_whyNoRows_79 : decode prog_1_method_23_code 79 = .ok (.iconst 1, 1) := by decide +kernel
theorem d_C_whyNoRows_80 : decode prog_1_method_23_code 80 = .ok (.goto 4, 3) := by decide +kernel
theorem d_C_whyNoRows_83 : decode prog_1_method_23_code 83 = .ok (.iconst 0, 1) := by decide +kernel
theorem d_C_whyNoRows_84 : decode prog_1_method_23_code 84 = .ok (.invokestatic 195, 3) := by decide +kernel
theorem d_C_whyNoRows_87 : decode prog_1_method_23_code 87 = .ok (.ireturn, 1) := by decide +kernel
theorem d_C_alarm_0 : decode prog_1_method_24_code 0 = .ok (.iload_n 1, 1) := by decide +kernel
theorem d_C_alarm_1 : decode prog_1_method_24_code 1 = .ok (.iconst 1, 1) := by decide +kernel
theorem d_C_alarm_2 : decode prog_1_method_24_code 2 = .ok (.sipush 240, 3) := by decide +kernel
theorem d_C_alarm_5 : decode prog_1_method_24_code 5 = .ok (.invokestatic 84, 3) := by decide +kernel
theorem d_C_alarm_8 : decode prog_1_method_24_code 8 = .ok (.ifCond .eq 10, 3) := by decide +kernel
theorem d_C_alarm_11 : decode prog_1_method_24_code 11 = .ok (.aload_n 0, 1) := by decide +kernel
theorem d_C_alarm_12 : decode prog_1_method_24_code 12 = .ok (.getfield 81, 3) := by decide +kernel
theorem d_C_alarm_15 : decode prog_1_method_24_code 15 = .ok (.ifCond .eq 10, 3) := by decide +kernel
theorem d_C_alarm_18 : decode prog_1_method_24_code 18 = .ok (.aload_n 0, 1) := by decide +kernel
theorem d_C_alarm_19 : decode prog_1_method_24_code 19 = .ok (.bipush (-6), 2) := by decide +kernel
theorem d_C_alarm_21 : decode prog_1_method_24_code 21 = .ok (.invokevirtual 88, 3) := by decide +kernel
theorem d_C_alarm_24 : decode prog_1_method_24_code 24 = .ok (.ireturn, 1) := by decide +kernel
theorem d_C_alarm_25 : decode prog_1_method_24_code 25 = .ok (.aload_n 0, 1) := by decide +kernel
theorem d_C_alarm_26 : decode prog_1_method_24_code 26 = .ok (.iconst 1, 1) := by decide +kernel
theorem d_C_alarm_27 : decode prog_1_method_24_code 27 = .ok (.putfield 81, 3) := by decide +kernel
theorem d_C_alarm_30 : decode prog_1_method_24_code 30 = .ok (.aload_n 0, 1) := by decide +kernel
theorem d_C_alarm_31 : decode prog_1_method_24_code 31 = .ok (.getfield 28, 3) := by decide +kernel
theorem d_C_alarm_34 : decode prog_1_method_24_code 34 = .ok (.iload_n 1, 1) := by decide +kernel
theorem d_C_alarm_35 : decode prog_1_method_24_code 35 = .ok (.invokevirtual 199, 3) := by decide +kernel
theorem d_C_alarm_38 : decode prog_1_method_24_code 38 = .ok (.ireturn, 1) := by decide +kernel
theorem d_C_plan_0 : decode prog_1_method_25_code 0 = .ok (.aload_n 0, 1) := by decide +kernel
theorem d_C_plan_1 : decode prog_1_method_25_code 1 = .ok (.iload_n 1, 1) := by decide +kernel
theorem d_C_plan_2 : decode prog_1_method_25_code 2 = .ok (.invokevirtual 202, 3) := by decide +kernel
theorem d_C_plan_5 : decode prog_1_method_25_code 5 = .ok (.istore_n 2, 1) := by decide +kernel
theorem d_C_plan_6 : decode prog_1_method_25_code 6 = .ok (.iload_n 2, 1) := by decide +kernel
theorem d_C_plan_7 : decode prog_1_method_25_code 7 = .ok (.ifCond .ne 14, 3) := by decide +kernel
theorem d_C_plan_10 : decode prog_1_method_25_code 10 = .ok (.aload_n 0, 1) := by decide +kernel
theorem d_C_plan_11 : decode prog_1_method_25_code 11 = .ok (.getfield 28, 3) := by decide +kernel
theorem d_C_plan_14 : decode prog_1_method_25_code 14 = .ok (.iload_n 1, 1) := by decide +kernel
theorem d_C_plan_15 : decode prog_1_method_25_code 15 = .ok (.invokevirtual 206, 3) := by decide +kernel
theorem d_C_plan_18 : decode prog_1_method_25_code 18 = .ok (.goto 8, 3) := by decide +kernel
theorem d_C_plan_21 : decode prog_1_method_25_code 21 = .ok (.aload_n 0, 1) := by decide +kernel
theorem d_C_plan_22 : decode prog_1_method_25_code 22 = .ok (.iload_n 2, 1) := by decide +kernel
theorem d_C_plan_23 : decode prog_1_method_25_code 23 = .ok (.invokevirtual 88, 3) := by decide +kernel
theorem d_C_plan_26 : decode prog_1_method_25_code 26 = .ok (.ireturn, 1) := by decide +kernel
theorem d_C_gap_0 : decode prog_1_method_26_code 0 = .ok (.aload_n 0, 1) := by decide +kernel
theorem d_C_gap_1 : decode prog_1_method_26_code 1 = .ok (.iconst 1, 1) := by decide +kernel
theorem d_C_gap_2 : decode prog_1_method_26_code 2 = .ok (.invokevirtual 202, 3) := by decide +kernel
theorem d_C_gap_5 : decode prog_1_method_26_code 5 = .ok (.istore_n 1, 1) := by decide +kernel
theorem d_C_gap_6 : decode prog_1_method_26_code 6 = .ok (.iload_n 1, 1) := by decide +kernel
theorem d_C_gap_7 : decode prog_1_method_26_code 7 = .ok (.ifCond .ne 13, 3) := by decide +kernel
theorem d_C_gap_10 : decode prog_1_method_26_code 10 = .ok (.aload_n 0, 1) := by decide +kernel
theorem d_C_gap_11 : decode prog_1_method_26_code 11 = .ok (.getfield 28, 3) := by decide +kernel
theorem d_C_gap_14 : decode prog_1_method_26_code 14 = .ok (.invokevirtual 209, 3) := by decide +kernel
theorem d_C_gap_17 : decode prog_1_method_26_code 17 = .ok (.goto 8, 3) := by decide +kernel
theorem d_C_gap_20 : decode prog_1_method_26_code 20 = .ok (.aload_n 0, 1) := by decide +kernel
theorem d_C_gap_21 : decode prog_1_method_26_code 21 = .ok (.iload_n 1, 1) := by decide +kernel
theorem d_C_gap_22 : decode prog_1_method_26_code 22 = .ok (.invokevirtual 88, 3) := by decide +kernel
theorem d_C_gap_25 : decode prog_1_method_26_code 25 = .ok (.ireturn, 1) := by decide +kernel
theorem d_C_whyNoPlan_0 : decode prog_1_method_27_code 0 = .ok (.aload_n 0, 1) := by decide +kernel
theorem d_C_whyNoPlan_1 : decode prog_1_method_27_code 1 = .ok (.getfield 81, 3) := by decide +kernel
theorem d_C_whyNoPlan_4 : decode prog_1_method_27_code 4 = .ok (.iconst 1, 1) := by decide +kernel
theorem d_C_whyNoPlan_5 : decode prog_1_method_27_code 5 = .ok (.if_icmp .eq 6, 3) := by decide +kernel
theorem d_C_whyNoPlan_8 : decode prog_1_method_27_code 8 = .ok (.bipush (-6), 2) := by decide +kernel
theorem d_C_whyNoPlan_10 : decode prog_1_method_27_code 10 = .ok (.ireturn, 1) := by decide +kernel
theorem d_C_whyNoPlan_11 : decode prog_1_method_27_code 11 = .ok (.iload_n 1, 1) := by decide +kernel
theorem d_C_whyNoPlan_12 : decode prog_1_method_27_code 12 = .ok (.ifCond .eq 19, 3) := by decide +kernel
theorem d_C_whyNoPlan_15 : decode prog_1_method_27_code 15 = .ok (.aload_n 0, 1) := by decide +kernel
theorem d_C_whyNoPlan_16 : decode prog_1_method_27_code 16 = .ok (.bipush 100, 2) := by decide +kernel
theorem d_C_whyNoPlan_18 : decode prog_1_method_27_code 18 = .ok (.invokevirtual 212, 3) := by decide +kernel
theorem d_C_whyNoPlan_21 : decode prog_1_method_27_code 21 = .ok (.bipush 8, 2) := by decide +kernel
theorem d_C_whyNoPlan_23 : decode prog_1_method_27_code 23 = .ok (.if_icmp .le 8, 3) := by decide +kernel
theorem d_C_whyNoPlan_26 : decode prog_1_method_27_code 26 = .ok (.bipush (-7), 2) := by decide +kernel
theorem d_C_whyNoPlan_28 : decode prog_1_method_27_code 28 = .ok (.goto 4, 3) := by decide +kernel
theorem d_C_whyNoPlan_31 : decode prog_1_method_27_code 31 = .ok (.iconst 0, 1) := by decide +kernel
theorem d_C_whyNoPlan_32 : decode prog_1_method_27_code 32 = .ok (.ireturn, 1) := by decide +kernel
theorem d_C_block_0 : decode prog_1_method_28_code 0 = .ok (.aload_n 0, 1) := by decide +kernel
theorem d_C_block_1 : decode prog_1_method_28_code 1 = .ok (.getfield 19, 3) := by decide +kernel
theorem d_C_block_4 : decode prog_1_method_28_code 4 = .ok (.iload_n 1, 1) := by decide +kernel
theorem d_C_block_5 : decode prog_1_method_28_code 5 = .ok (.invokevirtual 215, 3) := by decide +kernel
theorem d_C_block_8 : decode prog_1_method_28_code 8 = .ok (.ifCond .ne 9, 3) := by decide +kernel
theorem d_C_block_11 : decode prog_1_method_28_code 11 = .ok (.aload_n 0, 1) := by decide +kernel
theorem d_C_block_12 : decode prog_1_method_28_code 12 = .ok (.iconst (-1), 1) := by decide +kernel
theorem d_C_block_13 : decode prog_1_method_28_code 13 = .ok (.invokevirtual 88, 3) := by decide +kernel
theorem d_C_block_16 : decode prog_1_method_28_code 16 = .ok (.ireturn, 1) := by decide +kernel
theorem d_C_block_17 : decode prog_1_method_28_code 17 = .ok (.aload_n 0, 1) := by decide +kernel
theorem d_C_block_18 : decode prog_1_method_28_code 18 = .ok (.getfield 81, 3) := by decide +kernel
theorem d_C_block_21 : decode prog_1_method_28_code 21 = .ok (.iconst 2, 1) := by decide +kernel
theorem d_C_block_22 : decode prog_1_method_28_code 22 = .ok (.if_icmp .eq 14, 3) := by decide +kernel
theorem d_C_block_25 : decode prog_1_method_28_code 25 = .ok (.aload_n 0, 1) := by decide +kernel
theorem d_C_block_26 : decode prog_1_method_28_code 26 = .ok (.getfield 19, 3) := by decide +kernel
theorem d_C_block_29 : decode prog_1_method_28_code 29 = .ok (.iload_n 1, 1) := by decide +kernel
theorem d_C_block_30 : decode prog_1_method_28_code 30 = .ok (.invokevirtual 218, 3) := by decide +kernel
theorem d_C_block_33 : decode prog_1_method_28_code 33 = .ok (.ifCond .eq 10, 3) := by decide +kernel
theorem d_C_block_36 : decode prog_1_method_28_code 36 = .ok (.aload_n 0, 1) := by decide +kernel
theorem d_C_block_37 : decode prog_1_method_28_code 37 = .ok (.bipush (-6), 2) := by decide +kernel
theorem d_C_block_39 : decode prog_1_method_28_code 39 = .ok (.invokevirtual 88, 3) := by decide +kernel
theorem d_C_block_42 : decode prog_1_method_28_code 42 = .ok (.ireturn, 1) := by decide +kernel
theorem d_C_block_43 : decode prog_1_method_28_code 43 = .ok (.aload_n 0, 1) := by decide +kernel
theorem d_C_block_44 : decode prog_1_method_28_code 44 = .ok (.getfield 19, 3) := by decide +kernel
theorem d_C_block_47 : decode prog_1_method_28_code 47 = .ok (.iload_n 1, 1) := by decide +kernel
theorem d_C_block_48 : decode prog_1_method_28_code 48 = .ok (.invokevirtual 221, 3) := by decide +kernel
theorem d_C_block_51 : decode prog_1_method_28_code 51 = .ok (.aload_n 0, 1) := by decide +kernel
theorem d_C_block_52 : decode prog_1_method_28_code 52 = .ok (.getfield 81, 3) := by decide +kernel
theorem d_C_block_55 : decode prog_1_method_28_code 55 = .ok (.iconst 1, 1) := by decide +kernel
theorem d_C_block_56 : decode prog_1_method_28_code 56 = .ok (.if_icmp .ne 13, 3) := by decide +kernel
theorem d_C_block_59 : decode prog_1_method_28_code 59 = .ok (.aload_n 0, 1) := by decide +kernel
theorem d_C_block_60 : decode prog_1_method_28_code 60 = .ok (.getfield 28, 3) := by decide +kernel
theorem d_C_block_63 : decode prog_1_method_28_code 63 = .ok (.invokevirtual 143, 3) := by decide +kernel
theorem d_C_block_66 : decode prog_1_method_28_code 66 = .ok (.goto 4, 3) := by decide +kernel
theorem d_C_block_69 : decode prog_1_method_28_code 69 = .ok (.iconst 0, 1) := by decide +kernel
theorem d_C_block_70 : decode prog_1_method_28_code 70 = .ok (.ireturn, 1) := by decide +kernel
theorem d_C_late_0 : decode prog_1_method_29_code 0 = .ok (.iload_n 1, 1) := by decide +kernel
theorem d_C_late_1 : decode prog_1_method_29_code 1 = .ok (.iconst 0, 1) := by decide +kernel
theorem d_C_late_2 : decode prog_1_method_29_code 2 = .ok (.aload_n 0, 1) := by decide +kernel
theorem d_C_late_3 : decode prog_1_method_29_code 3 = .ok (.getfield 28, 3) := by decide +kernel
theorem d_C_late_6 : decode prog_1_method_29_code 6 = .ok (.invokevirtual 100, 3) := by decide +kernel
theorem d_C_late_9 : decode prog_1_method_29_code 9 = .ok (.iconst 1, 1) := by decide +kernel
theorem d_C_late_10 : decode prog_1_method_29_code 10 = .ok (.isub, 1) := by decide +kernel
theorem d_C_late_11 : decode prog_1_method_29_code 11 = .ok (.invokestatic 84, 3) := by decide +kernel
theorem d_C_late_14 : decode prog_1_method_29_code 14 = .ok (.ifCond .ne 9, 3) := by decide +kernel
theorem d_C_late_17 : decode prog_1_method_29_code 17 = .ok (.aload_n 0, 1) := by decide +kernel
theorem d_C_late_18 : decode prog_1_method_29_code 18 = .ok (.iconst (-1), 1) := by decide +kernel
theorem d_C_late_19 : decode prog_1_method_29_code 19 = .ok (.invokevirtual 88, 3) := by decide +kernel
theorem d_C_late_22 : decode prog_1_method_29_code 22 = .ok (.ireturn, 1) := by decide +kernel
theorem d_C_late_23 : decode prog_1_method_29_code 23 = .ok (.iload_n 2, 1) := by decide +kernel
theorem d_C_late_24 : decode prog_1_method_29_code 24 = .ok (.iconst 1, 1) := by decide +kernel
theorem d_C_late_25 : decode prog_1_method_29_code 25 = .ok (.bipush 60, 2) := by decide +kernel
theorem d_C_late_27 : decode prog_1_method_29_code 27 = .ok (.invokestatic 84, 3) := by decide +kernel
theorem d_C_late_30 : decode prog_1_method_29_code 30 = .ok (.ifCond .eq 22, 3) := by decide +kernel
theorem d_C_late_33 : decode prog_1_method_29_code 33 = .ok (.aload_n 0, 1) := by decide +kernel
theorem d_C_late_34 : decode prog_1_method_29_code 34 = .ok (.getfield 81, 3) := by decide +kernel
theorem d_C_late_37 : decode prog_1_method_29_code 37 = .ok (.iconst 1, 1) := by decide +kernel
theorem d_C_late_38 : decode prog_1_method_29_code 38 = .ok (.if_icmp .ne 14, 3) := by decide +kernel
theorem d_C_late_41 : decode prog_1_method_29_code 41 = .ok (.aload_n 0, 1) := by decide +kernel
theorem d_C_late_42 : decode prog_1_method_29_code 42 = .ok (.getfield 28, 3) := by decide +kernel
theorem d_C_late_45 : decode prog_1_method_29_code 45 = .ok (.iload_n 1, 1) := by decide +kernel
theorem d_C_late_46 : decode prog_1_method_29_code 46 = .ok (.invokevirtual 225, 3) := by decide +kernel
theorem d_C_late_49 : decode prog_1_method_29_code 49 = .ok (.ifCond .eq 10, 3) := by decide +kernel
theorem d_C_late_52 : decode prog_1_method_29_code 52 = .ok (.aload_n 0, 1) := by decide +kernel
theorem d_C_late_53 : decode prog_1_method_29_code 53 = .ok (.bipush (-6), 2) := by decide +kernel
theorem d_C_late_55 : decode prog_1_method_29_code 55 = .ok (.invokevirtual 88, 3) := by decide +kernel
theorem d_C_late_58 : decode prog_1_method_29_code 58 = .ok (.ireturn, 1) := by decide +kernel
theorem d_C_late_59 : decode prog_1_method_29_code 59 = .ok (.aload_n 0, 1) := by decide +kernel
theorem d_C_late_60 : decode prog_1_method_29_code 60 = .ok (.getfield 28, 3) := by decide +kernel
theorem d_C_late_63 : decode prog_1_method_29_code 63 = .ok (.iload_n 1, 1) := by decide +kernel
theorem d_C_late_64 : decode prog_1_method_29_code 64 = .ok (.iload_n 2, 1) := by decide +kernel
theorem d_C_late_65 : decode prog_1_method_29_code 65 = .ok (.invokevirtual 228, 3) := by decide +kernel
theorem d_C_late_68 : decode prog_1_method_29_code 68 = .ok (.ireturn, 1) := by decide +kernel
theorem d_C_minutes_0 : decode prog_1_method_30_code 0 = .ok (.iload_n 1, 1) := by decide +kernel
theorem d_C_minutes_1 : decode prog_1_method_30_code 1 = .ok (.iconst 1, 1) := by decide +kernel
theorem d_C_minutes_2 : decode prog_1_method_30_code 2 = .ok (.sipush 240, 3) := by decide +kernel
theorem d_C_minutes_5 : decode prog_1_method_30_code 5 = .ok (.invokestatic 84, 3) := by decide +kernel
theorem d_C_minutes_8 : decode prog_1_method_30_code 8 = .ok (.ifCond .eq 11, 3) := by decide +kernel
theorem d_C_minutes_11 : decode prog_1_method_30_code 11 = .ok (.aload_n 0, 1) := by decide +kernel
theorem d_C_minutes_12 : decode prog_1_method_30_code 12 = .ok (.getfield 81, 3) := by decide +kernel
theorem d_C_minutes_15 : decode prog_1_method_30_code 15 = .ok (.iconst 1, 1) := by decide +kernel
theorem d_C_minutes_16 : decode prog_1_method_30_code 16 = .ok (.if_icmp .eq 10, 3) := by decide +kernel
theorem d_C_minutes_19 : decode prog_1_method_30_code 19 = .ok (.aload_n 0, 1) := by decide +kernel
theorem d_C_minutes_20 : decode prog_1_method_30_code 20 = .ok (.bipush (-6), 2) := by decide +kernel
theorem d_C_minutes_22 : decode prog_1_method_30_code 22 = .ok (.invokevirtual 88, 3) := by decide +kernel
theorem d_C_minutes_25 : decode prog_1_method_30_code 25 = .ok (.ireturn, 1) := by decide +kernel
theorem d_C_minutes_26 : decode prog_1_method_30_code 26 = .ok (.iconst 0, 1) := by decide +kernel
theorem d_C_minutes_27 : decode prog_1_method_30_code 27 = .ok (.istore_n 2, 1) := by decide +kernel
theorem d_C_minutes_28 : decode prog_1_method_30_code 28 = .ok (.iload_n 2, 1) := by decide +kernel
theorem d_C_minutes_29 : decode prog_1_method_30_code 29 = .ok (.iload_n 1, 1) := by decide +kernel
theorem d_C_minutes_30 : decode prog_1_method_30_code 30 = .ok (.if_icmp .ge 26, 3) := by decide +kernel
theorem d_C_minutes_33 : decode prog_1_method_30_code 33 = .ok (.aload_n 0, 1) := by decide +kernel
theorem d_C_minutes_34 : decode prog_1_method_30_code 34 = .ok (.getfield 28, 3) := by decide +kernel
theorem d_C_minutes_37 : decode prog_1_method_30_code 37 = .ok (.invokevirtual 231, 3) := by decide +kernel
theorem d_C_minutes_40 : decode prog_1_method_30_code 40 = .ok (.ifCond .ne 16, 3) := by decide +kernel
theorem d_C_minutes_43 : decode prog_1_method_30_code 43 = .ok (.aload_n 0, 1) := by decide +kernel
theorem d_C_minutes_44 : decode prog_1_method_30_code 44 = .ok (.getfield 28, 3) := by decide +kernel
theorem d_C_minutes_47 : decode prog_1_method_30_code 47 = .ok (.invokevirtual 235, 3) := by decide +kernel
theorem d_C_minutes_50 : decode prog_1_method_30_code 50 = .ok (.iinc 2 1, 3) := by decide +kernel
theorem d_C_minutes_53 : decode prog_1_method_30_code 53 = .ok (.goto (-25), 3) := by decide +kernel
theorem d_C_minutes_56 : decode prog_1_method_30_code 56 = .ok (.aload_n 0, 1) := by decide +kernel
theorem d_C_minutes_57 : decode prog_1_method_30_code 57 = .ok (.getfield 28, 3) := by decide +kernel
theorem d_C_minutes_60 : decode prog_1_method_30_code 60 = .ok (.invokevirtual 231, 3) := by decide +kernel
theorem d_C_minutes_63 : decode prog_1_method_30_code 63 = .ok (.ifCond .eq 8, 3) := by decide +kernel
theorem d_C_minutes_66 : decode prog_1_method_30_code 66 = .ok (.aload_n 0, 1) := by decide +kernel
theorem d_C_minutes_67 : decode prog_1_method_30_code 67 = .ok (.iconst 2, 1) := by decide +kernel
theorem d_C_minutes_68 : decode prog_1_method_30_code 68 = .ok (.putfield 81, 3) := by decide +kernel
theorem d_C_minutes_71 : decode prog_1_method_30_code 71 = .ok (.aload_n 0, 1) := by decide +kernel
theorem d_C_minutes_72 : decode prog_1_method_30_code 72 = .ok (.getfield 28, 3) := by decide +kernel
theorem d_C_minutes_75 : decode prog_1_method_30_code 75 = .ok (.invokevirtual 136, 3) := by decide +kernel
theorem d_C_minutes_78 : decode prog_1_method_30_code 78 = .ok (.ireturn, 1) := by decide +kernel
theorem d_C_given_0 : decode prog_1_method_31_code 0 = .ok (.aload_n 0, 1) := by decide +kernel
theorem d_C_given_1 : decode prog_1_method_31_code 1 = .ok (.iload_n 1, 1) := by decide +kernel
theorem d_C_given_2 : decode prog_1_method_31_code 2 = .ok (.invokevirtual 182, 3) := by decide +kernel
theorem d_C_given_5 : decode prog_1_method_31_code 5 = .ok (.astore_n 2, 1) := by decide +kernel
theorem d_C_given_6 : decode prog_1_method_31_code 6 = .ok (.aload_n 2, 1) := by decide +kernel
theorem d_C_given_7 : decode prog_1_method_31_code 7 = .ok (.ifnonnull 7, 3) := by decide +kernel
theorem d_C_given_10 : decode prog_1_method_31_code 10 = .ok (.iconst (-1), 1) := by decide +kernel
theorem d_C_given_11 : decode prog_1_method_31_code 11 = .ok (.goto 7, 3) := by decide +kernel
theorem d_C_given_14 : decode prog_1_method_31_code 14 = .ok (.aload_n 2, 1) := by decide +kernel
theorem d_C_given_15 : decode prog_1_method_31_code 15 = .ok (.invokevirtual 238, 3) := by decide +kernel
theorem d_C_given_18 : decode prog_1_method_31_code 18 = .ok (.ireturn, 1) := by decide +kernel
theorem d_C_begins_0 : decode prog_1_method_32_code 0 = .ok (.aload_n 0, 1) := by decide +kernel
theorem d_C_begins_1 : decode prog_1_method_32_code 1 = .ok (.iload_n 1, 1) := by decide +kernel
theorem d_C_begins_2 : decode prog_1_method_32_code 2 = .ok (.invokevirtual 182, 3) := by decide +kernel
theorem d_C_begins_5 : decode prog_1_method_32_code 5 = .ok (.astore_n 2, 1) := by decide +kernel
theorem d_C_begins_6 : decode prog_1_method_32_code 6 = .ok (.aload_n 2, 1) := by decide +kernel
theorem d_C_begins_7 : decode prog_1_method_32_code 7 = .ok (.ifnonnull 7, 3) := by decide +kernel
theorem d_C_begins_10 : decode prog_1_method_32_code 10 = .ok (.iconst (-1), 1) := by decide +kernel
theorem d_C_begins_11 : decode prog_1_method_32_code 11 = .ok (.goto 11, 3) := by decide +kernel
theorem d_C_begins_14 : decode prog_1_method_32_code 14 = .ok (.aload_n 0, 1) := by decide +kernel
theorem d_C_begins_15 : decode prog_1_method_32_code 15 = .ok (.getfield 28, 3) := by decide +kernel
theorem d_C_begins_18 : decode prog_1_method_32_code 18 = .ok (.aload_n 2, 1) := by decide +kernel
theorem d_C_begins_19 : decode prog_1_method_32_code 19 = .ok (.invokevirtual 241, 3) := by decide +kernel
theorem d_C_begins_22 : decode prog_1_method_32_code 22 = .ok (.ireturn, 1) := by decide +kernel
theorem d_C_place_0 : decode prog_1_method_33_code 0 = .ok (.iload_n 2, 1) := by decide +kernel
theorem d_C_place_1 : decode prog_1_method_33_code 1 = .ok (.iconst 0, 1) := by decide +kernel
theorem d_C_place_2 : decode prog_1_method_33_code 2 = .ok (.iconst 3, 1) := by decide +kernel
theorem d_C_place_3 : decode prog_1_method_33_code 3 = .ok (.invokestatic 84, 3) := by decide +kernel
theorem d_C_place_6 : decode prog_1_method_33_code 6 = .ok (.ifCond .ne 9, 3) := by decide +kernel
theorem d_C_place_9 : decode prog_1_method_33_code 9 = .ok (.aload_n 0, 1) := by decide +kernel
theorem d_C_place_10 : decode prog_1_method_33_code 10 = .ok (.iconst (-1), 1) := by decide +kernel
theorem d_C_place_11 : decode prog_1_method_33_code 11 = .ok (.invokevirtual 88, 3) := by decide +kernel
theorem d_C_place_14 : decode prog_1_method_33_code 14 = .ok (.ireturn, 1) := by decide +kernel
theorem d_C_place_15 : decode prog_1_method_33_code 15 = .ok (.iload_n 1, 1) := by decide +kernel
theorem d_C_place_16 : decode prog_1_method_33_code 16 = .ok (.iconst 1, 1) := by decide +kernel
theorem d_C_place_17 : decode prog_1_method_33_code 17 = .ok (.bipush 40, 2) := by decide +kernel
theorem d_C_place_19 : decode prog_1_method_33_code 19 = .ok (.invokestatic 84, 3) := by decide +kernel
theorem d_C_place_22 : decode prog_1_method_33_code 22 = .ok (.ifCond .eq 13, 3) := by decide +kernel
theorem d_C_place_25 : decode prog_1_method_33_code 25 = .ok (.iload_n 3, 1) := by decide +kernel
theorem d_C_place_26 : decode prog_1_method_33_code 26 = .ok (.iconst 1, 1) := by decide +kernel
theorem d_C_place_27 : decode prog_1_method_33_code 27 = .ok (.bipush 9, 2) := by decide +kernel
theorem d_C_place_29 : decode prog_1_method_33_code 29 = .ok (.invokestatic 84, 3) := by decide +kernel
theorem d_C_place_32 : decode prog_1_method_33_code 32 = .ok (.ifCond .ne 10, 3) := by decide +kernel
theorem d_C_place_35 : decode prog_1_method_33_code 35 = .ok (.aload_n 0, 1) := by decide +kernel
theorem d_C_place_36 : decode prog_1_method_33_code 36 = .ok (.bipush (-6), 2) := by decide +kernel
theorem d_C_place_38 : decode prog_1_method_33_code 38 = .ok (.invokevirtual 88, 3) := by decide +kernel
theorem d_C_place_41 : decode prog_1_method_33_code 41 = .ok (.ireturn, 1) := by decide +kernel
theorem d_C_place_42 : decode prog_1_method_33_code 42 = .ok (.aload_n 0, 1) := by decide +kernel
theorem d_C_place_43 : decode prog_1_method_33_code 43 = .ok (.getfield 37, 3) := by decide +kernel
theorem d_C_place_46 : decode prog_1_method_33_code 46 = .ok (.invokevirtual 245, 3) := by decide +kernel
theorem d_C_place_49 : decode prog_1_method_33_code 49 = .ok (.iconst 5, 1) := by decide +kernel
theorem d_C_place_50 : decode prog_1_method_33_code 50 = .ok (.if_icmp .lt 10, 3) := by decide +kernel
theorem d_C_place_53 : decode prog_1_method_33_code 53 = .ok (.aload_n 0, 1) := by decide +kernel
theorem d_C_place_54 : decode prog_1_method_33_code 54 = .ok (.bipush (-7), 2) := by decide +kernel
theorem d_C_place_56 : decode prog_1_method_33_code 56 = .ok (.invokevirtual 88, 3) := by decide +kernel
theorem d_C_place_59 : decode prog_1_method_33_code 59 = .ok (.ireturn, 1) := by decide +kernel
theorem d_C_place_60 : decode prog_1_method_33_code 60 = .ok (.aload_n 0, 1) := by decide +kernel
theorem d_C_place_61 : decode prog_1_method_33_code 61 = .ok (.getfield 37, 3) := by decide +kernel
theorem d_C_place_64 : decode prog_1_method_33_code 64 = .ok (.iload_n 1, 1) := by decide +kernel
theorem d_C_place_65 : decode prog_1_method_33_code 65 = .ok (.iload_n 2, 1) := by decide +kernel
theorem d_C_place_66 : decode prog_1_method_33_code 66 = .ok (.iload_n 3, 1) := by decide +kernel
theorem d_C_place_67 : decode prog_1_method_33_code 67 = .ok (.invokevirtual 248, 3) := by decide +kernel
theorem d_C_place_70 : decode prog_1_method_33_code 70 = .ok (.ireturn, 1) := by decide +kernel
theorem d_C_air_0 : decode prog_1_method_34_code 0 = .ok (.aload_n 0, 1) := by decide +kernel
theorem d_C_air_1 : decode prog_1_method_34_code 1 = .ok (.getfield 37, 3) := by decide +kernel
theorem d_C_air_4 : decode prog_1_method_34_code 4 = .ok (.iload_n 1, 1) := by decide +kernel
theorem d_C_air_5 : decode prog_1_method_34_code 5 = .ok (.invokevirtual 251, 3) := by decide +kernel
theorem d_C_air_8 : decode prog_1_method_34_code 8 = .ok (.astore_n 3, 1) := by decide +kernel
theorem d_C_air_9 : decode prog_1_method_34_code 9 = .ok (.aload_n 3, 1) := by decide +kernel
theorem d_C_air_10 : decode prog_1_method_34_code 10 = .ok (.ifnonnull 9, 3) := by decide +kernel
theorem d_C_air_13 : decode prog_1_method_34_code 13 = .ok (.aload_n 0, 1) := by decide +kernel
theorem d_C_air_14 : decode prog_1_method_34_code 14 = .ok (.iconst (-1), 1) := by decide +kernel
theorem d_C_air_15 : decode prog_1_method_34_code 15 = .ok (.invokevirtual 88, 3) := by decide +kernel
theorem d_C_air_18 : decode prog_1_method_34_code 18 = .ok (.ireturn, 1) := by decide +kernel
theorem d_C_air_19 : decode prog_1_method_34_code 19 = .ok (.aload_n 0, 1) := by decide +kernel
theorem d_C_air_20 : decode prog_1_method_34_code 20 = .ok (.iload_n 2, 1) := by decide +kernel
theorem d_C_air_21 : decode prog_1_method_34_code 21 = .ok (.invokevirtual 110, 3) := by decide +kernel
theorem d_C_air_24 : decode prog_1_method_34_code 24 = .ok (.astore 4, 2) := by decide +kernel
theorem d_C_air_26 : decode prog_1_method_34_code 26 = .ok (.aload 4, 2) := by decide +kernel
theorem d_C_air_28 : decode prog_1_method_34_code 28 = .ok (.ifnonnull 13, 3) := by decide +kernel
theorem d_C_air_31 : decode prog_1_method_34_code 31 = .ok (.aload_n 0, 1) := by decide +kernel
theorem d_C_air_32 : decode prog_1_method_34_code 32 = .ok (.aload_n 0, 1) := by decide +kernel
theorem d_C_air_33 : decode prog_1_method_34_code 33 = .ok (.iload_n 2, 1) := by decide +kernel
theorem d_C_air_34 : decode prog_1_method_34_code 34 = .ok (.invokevirtual 114, 3) := by decide +kernel
theorem d_C_air_37 : decode prog_1_method_34_code 37 = .ok (.invokevirtual 88, 3) := by decide +kernel
theorem d_C_air_40 : decode prog_1_method_34_code 40 = .ok (.ireturn, 1) := by decide +kernel
theorem d_C_air_41 : decode prog_1_method_34_code 41 = .ok (.aload_n 3, 1) := by decide +kernel
theorem d_C_air_42 : decode prog_1_method_34_code 42 = .ok (.aload 4, 2) := by decide +kernel
theorem d_C_air_44 : decode prog_1_method_34_code 44 = .ok (.invokevirtual 255, 3) := by decide +kernel
theorem d_C_air_47 : decode prog_1_method_34_code 47 = .ok (.ireturn, 1) := by decide +kernel
theorem d_C_airIn_0 : decode prog_1_method_35_code 0 = .ok (.aload_n 0, 1) := by decide +kernel
theorem d_C_airIn_1 : decode prog_1_method_35_code 1 = .ok (.getfield 37, 3) := by decide +kernel
theorem d_C_airIn_4 : decode prog_1_method_35_code 4 = .ok (.iload_n 1, 1) := by decide +kernel
theorem d_C_airIn_5 : decode prog_1_method_35_code 5 = .ok (.invokevirtual 251, 3) := by decide +kernel
theorem d_C_airIn_8 : decode prog_1_method_35_code 8 = .ok (.astore_n 3, 1) := by decide +kernel
theorem d_C_airIn_9 : decode prog_1_method_35_code 9 = .ok (.aload_n 3, 1) := by decide +kernel
theorem d_C_airIn_10 : decode prog_1_method_35_code 10 = .ok (.ifnull 7, 3) := by decide +kernel
theorem d_C_airIn_13 : decode prog_1_method_35_code 13 = .ok (.iload_n 2, 1) := by decide +kernel
theorem d_C_airIn_14 : decode prog_1_method_35_code 14 = .ok (.ifCond .ge 5, 3) := by decide +kernel
theorem d_C_airIn_17 : decode prog_1_method_35_code 17 = .ok (.iconst (-1), 1) := by decide +kernel
theorem d_C_airIn_18 : decode prog_1_method_35_code 18 = .ok (.ireturn, 1) := by decide +kernel
theorem d_C_airIn_19 : decode prog_1_method_35_code 19 = .ok (.aload_n 3, 1) := by decide +kernel
theorem d_C_airIn_20 : decode prog_1_method_35_code 20 = .ok (.iload_n 2, 1) := by decide +kernel
theorem d_C_airIn_21 : decode prog_1_method_35_code 21 = .ok (.invokevirtual 260, 3) := by decide +kernel
theorem d_C_airIn_24 : decode prog_1_method_35_code 24 = .ok (.lstore 4, 2) := by decide +kernel
theorem d_C_airIn_26 : decode prog_1_method_35_code 26 = .ok (.lload 4, 2) := by decide +kernel
theorem d_C_airIn_28 : decode prog_1_method_35_code 28 = .ok (.ldc2_w 263, 3) := by decide +kernel
theorem d_C_airIn_31 : decode prog_1_method_35_code 31 = .ok (.lcmp, 1) := by decide +kernel
theorem d_C_airIn_32 : decode prog_1_method_35_code 32 = .ok (.ifCond .ne 8, 3) := by decide +kernel
theorem d_C_airIn_35 : decode prog_1_method_35_code 35 = .ok (.bipush (-2), 2) := by decide +kernel
theorem d_C_airIn_37 : decode prog_1_method_35_code 37 = .ok (.goto 6, 3) := by decide +kernel
theorem d_C_airIn_40 : decode prog_1_method_35_code 40 = .ok (.lload 4, 2) := by decide +kernel
theorem d_C_airIn_42 : decode prog_1_method_35_code 42 = .ok (.l2i, 1) := by decide +kernel
theorem d_C_airIn_43 : decode prog_1_method_35_code 43 = .ok (.ireturn, 1) := by decide +kernel
theorem d_C_band_0 : decode prog_1_method_36_code 0 = .ok (.iload_n 1, 1) := by decide +kernel
theorem d_C_band_1 : decode prog_1_method_36_code 1 = .ok (.iconst 0, 1) := by decide +kernel
theorem d_C_band_2 : decode prog_1_method_36_code 2 = .ok (.iconst 3, 1) := by decide +kernel
theorem d_C_band_3 : decode prog_1_method_36_code 3 = .ok (.invokestatic 84, 3) := by decide +kernel
theorem d_C_band_6 : decode prog_1_method_36_code 6 = .ok (.ifCond .ne 9, 3) := by decide +kernel
theorem d_C_band_9 : decode prog_1_method_36_code 9 = .ok (.aload_n 0, 1) := by decide +kernel
theorem d_C_band_10 : decode prog_1_method_36_code 10 = .ok (.iconst (-1), 1) := by decide +kernel
theorem d_C_band_11 : decode prog_1_method_36_code 11 = .ok (.invokevirtual 88, 3) := by decide +kernel
theorem d_C_band_14 : decode prog_1_method_36_code 14 = .ok (.ireturn, 1) := by decide +kernel
theorem d_C_band_15 : decode prog_1_method_36_code 15 = .ok (.iload_n 2, 1) := by decide +kernel
theorem d_C_band_16 : decode prog_1_method_36_code 16 = .ok (.ifCond .lt 14, 3) := by decide +kernel
theorem d_C_band_19 : decode prog_1_method_36_code 19 = .ok (.iload_n 2, 1) := by decide +kernel
theorem d_C_band_20 : decode prog_1_method_36_code 20 = .ok (.iload_n 3, 1) := by decide +kernel
theorem d_C_band_21 : decode prog_1_method_36_code 21 = .ok (.if_icmp .gt 9, 3) := by decide +kernel
theorem d_C_band_24 : decode prog_1_method_36_code 24 = .ok (.iload_n 3, 1) := by decide +kernel
theorem d_C_band_25 : decode prog_1_method_36_code 25 = .ok (.bipush 100, 2) := by decide +kernel
theorem d_C_band_27 : decode prog_1_method_36_code 27 = .ok (.if_icmp .le 10, 3) := by decide +kernel
theorem d_C_band_30 : decode prog_1_method_36_code 30 = .ok (.aload_n 0, 1) := by decide +kernel
theorem d_C_band_31 : decode prog_1_method_36_code 31 = .ok (.bipush (-6), 2) := by decide +kernel
theorem d_C_band_33 : decode prog_1_method_36_code 33 = .ok (.invokevirtual 88, 3) := by decide +kernel
theorem d_C_band_36 : decode prog_1_method_36_code 36 = .ok (.ireturn, 1) := by decide +kernel
theorem d_C_band_37 : decode prog_1_method_36_code 37 = .ok (.aload_n 0, 1) := by decide +kernel
theorem d_C_band_38 : decode prog_1_method_36_code 38 = .ok (.getfield 37, 3) := by decide +kernel
theorem d_C_band_41 : decode prog_1_method_36_code 41 = .ok (.iload_n 1, 1) := by decide +kernel
theorem d_C_band_42 : decode prog_1_method_36_code 42 = .ok (.iload_n 2, 1) := by decide +kernel
theorem d_C_band_43 : decode prog_1_method_36_code 43 = .ok (.iload_n 3, 1) := by decide +kernel
theorem d_C_band_44 : decode prog_1_method_36_code 44 = .ok (.invokevirtual 265, 3) := by decide +kernel
theorem d_C_band_47 : decode prog_1_method_36_code 47 = .ok (.iconst 1, 1) := by decide +kernel
theorem d_C_band_48 : decode prog_1_method_36_code 48 = .ok (.ireturn, 1) := by decide +kernel
theorem d_C_keep_0 : decode prog_1_method_37_code 0 = .ok (.iload_n 1, 1) := by decide +kernel
theorem d_C_keep_1 : decode prog_1_method_37_code 1 = .ok (.iconst 0, 1) := by decide +kernel
theorem d_C_keep_2 : decode prog_1_method_37_code 2 = .ok (.iconst 3, 1) := by decide +kernel
theorem d_C_keep_3 : decode prog_1_method_37_code 3 = .ok (.invokestatic 84, 3) := by decide +kernel
theorem d_C_keep_6 : decode prog_1_method_37_code 6 = .ok (.ifCond .ne 9, 3) := by decide +kernel
theorem d_C_keep_9 : decode prog_1_method_37_code 9 = .ok (.aload_n 0, 1) := by decide +kernel
theorem d_C_keep_10 : decode prog_1_method_37_code 10 = .ok (.iconst (-1), 1) := by decide +kernel
theorem d_C_keep_11 : decode prog_1_method_37_code 11 = .ok (.invokevirtual 88, 3) := by decide +kernel
theorem d_C_keep_14 : decode prog_1_method_37_code 14 = .ok (.ireturn, 1) := by decide +kernel
theorem d_C_keep_15 : decode prog_1_method_37_code 15 = .ok (.iload_n 2, 1) := by decide +kernel
theorem d_C_keep_16 : decode prog_1_method_37_code 16 = .ok (.iconst 0, 1) := by decide +kernel
theorem d_C_keep_17 : decode prog_1_method_37_code 17 = .ok (.bipush 9, 2) := by decide +kernel
theorem d_C_keep_19 : decode prog_1_method_37_code 19 = .ok (.invokestatic 84, 3) := by decide +kernel
theorem d_C_keep_22 : decode prog_1_method_37_code 22 = .ok (.ifCond .eq 15, 3) := by decide +kernel
theorem d_C_keep_25 : decode prog_1_method_37_code 25 = .ok (.aload_n 0, 1) := by decide +kernel
theorem d_C_keep_26 : decode prog_1_method_37_code 26 = .ok (.getfield 37, 3) := by decide +kernel
theorem d_C_keep_29 : decode prog_1_method_37_code 29 = .ok (.iload_n 1, 1) := by decide +kernel
theorem d_C_keep_30 : decode prog_1_method_37_code 30 = .ok (.iload_n 2, 1) := by decide +kernel
theorem d_C_keep_31 : decode prog_1_method_37_code 31 = .ok (.invokevirtual 269, 3) := by decide +kernel
theorem d_C_keep_34 : decode prog_1_method_37_code 34 = .ok (.goto 9, 3) := by decide +kernel
theorem d_C_keep_37 : decode prog_1_method_37_code 37 = .ok (.aload_n 0, 1) := by decide +kernel
theorem d_C_keep_38 : decode prog_1_method_37_code 38 = .ok (.bipush (-6), 2) := by decide +kernel
theorem d_C_keep_40 : decode prog_1_method_37_code 40 = .ok (.invokevirtual 88, 3) := by decide +kernel
theorem d_C_keep_43 : decode prog_1_method_37_code 43 = .ok (.ireturn, 1) := by decide +kernel
theorem d_C_fuel_0 : decode prog_1_method_38_code 0 = .ok (.iload_n 1, 1) := by decide +kernel
theorem d_C_fuel_1 : decode prog_1_method_38_code 1 = .ok (.iconst 0, 1) := by decide +kernel
theorem d_C_fuel_2 : decode prog_1_method_38_code 2 = .ok (.sipush 10000, 3) := by decide +kernel
theorem d_C_fuel_5 : decode prog_1_method_38_code 5 = .ok (.invokestatic 84, 3) := by decide +kernel
theorem d_C_fuel_8 : decode prog_1_method_38_code 8 = .ok (.ifCond .eq 14, 3) := by decide +kernel
theorem d_C_fuel_11 : decode prog_1_method_38_code 11 = .ok (.aload_n 0, 1) := by decide +kernel
theorem d_C_fuel_12 : decode prog_1_method_38_code 12 = .ok (.getfield 37, 3) := by decide +kernel
theorem d_C_fuel_15 : decode prog_1_method_38_code 15 = .ok (.iload_n 1, 1) := by decide +kernel
theorem d_C_fuel_16 : decode prog_1_method_38_code 16 = .ok (.invokevirtual 272, 3) := by decide +kernel
theorem d_C_fuel_19 : decode prog_1_method_38_code 19 = .ok (.goto 9, 3) := by decide +kernel
theorem d_C_fuel_22 : decode prog_1_method_38_code 22 = .ok (.aload_n 0, 1) := by decide +kernel
theorem d_C_fuel_23 : decode prog_1_method_38_code 23 = .ok (.bipush (-6), 2) := by decide +kernel
theorem d_C_fuel_25 : decode prog_1_method_38_code 25 = .ok (.invokevirtual 88, 3) := by decide +kernel
theorem d_C_fuel_28 : decode prog_1_method_38_code 28 = .ok (.ireturn, 1) := by decide +kernel
theorem d_C_spread_0 : decode prog_1_method_39_code 0 = .ok (.aload_n 0, 1) := by decide +kernel
theorem d_C_spread_1 : decode prog_1_method_39_code 1 = .ok (.getfield 81, 3) := by decide +kernel
theorem d_C_spread_4 : decode prog_1_method_39_code 4 = .ok (.iconst 2, 1) := by decide +kernel
theorem d_C_spread_5 : decode prog_1_method_39_code 5 = .ok (.if_icmp .eq 10, 3) := by decide +kernel
theorem d_C_spread_8 : decode prog_1_method_39_code 8 = .ok (.aload_n 0, 1) := by decide +kernel
theorem d_C_spread_9 : decode prog_1_method_39_code 9 = .ok (.bipush (-6), 2) := by decide +kernel
theorem d_C_spread_11 : decode prog_1_method_39_code 11 = .ok (.invokevirtual 88, 3) := by decide +kernel
theorem d_C_spread_14 : decode prog_1_method_39_code 14 = .ok (.ireturn, 1) := by decide +kernel
theorem d_C_spread_15 : decode prog_1_method_39_code 15 = .ok (.aload_n 0, 1) := by decide +kernel
theorem d_C_spread_16 : decode prog_1_method_39_code 16 = .ok (.getfield 46, 3) := by decide +kernel
theorem d_C_spread_19 : decode prog_1_method_39_code 19 = .ok (.invokevirtual 275, 3) := by decide +kernel
theorem d_C_spread_22 : decode prog_1_method_39_code 22 = .ok (.istore_n 2, 1) := by decide +kernel
theorem d_C_spread_23 : decode prog_1_method_39_code 23 = .ok (.iload_n 2, 1) := by decide +kernel
theorem d_C_spread_24 : decode prog_1_method_39_code 24 = .ok (.ifCond .ge 9, 3) := by decide +kernel
theorem d_C_spread_27 : decode prog_1_method_39_code 27 = .ok (.aload_n 0, 1) := by decide +kernel
theorem d_C_spread_28 : decode prog_1_method_39_code 28 = .ok (.iload_n 2, 1) := by decide +kernel
theorem d_C_spread_29 : decode prog_1_method_39_code 29 = .ok (.invokevirtual 88, 3) := by decide +kernel
theorem d_C_spread_32 : decode prog_1_method_39_code 32 = .ok (.ireturn, 1) := by decide +kernel
theorem d_C_spread_33 : decode prog_1_method_39_code 33 = .ok (.iload_n 1, 1) := by decide +kernel
theorem d_C_spread_34 : decode prog_1_method_39_code 34 = .ok (.ifCond .eq 21, 3) := by decide +kernel
theorem d_C_spread_37 : decode prog_1_method_39_code 37 = .ok (.aload_n 0, 1) := by decide +kernel
theorem d_C_spread_38 : decode prog_1_method_39_code 38 = .ok (.getfield 37, 3) := by decide +kernel
theorem d_C_spread_41 : decode prog_1_method_39_code 41 = .ok (.iload_n 2, 1) := by decide +kernel
theorem d_C_spread_42 : decode prog_1_method_39_code 42 = .ok (.invokevirtual 278, 3) := by decide +kernel
theorem d_C_spread_45 : decode prog_1_method_39_code 45 = .ok (.ifCond .ne 10, 3) := by decide +kernel
theorem d_C_spread_48 : decode prog_1_method_39_code 48 = .ok (.aload_n 0, 1) := by decide +kernel
theorem d_C_spread_49 : decode prog_1_method_39_code 49 = .ok (.bipush (-7), 2) := by decide +kernel
theorem d_C_spread_51 : decode prog_1_method_39_code 51 = .ok (.invokevirtual 88, 3) := by decide +kernel
theorem d_C_spread_54 : decode prog_1_method_39_code 54 = .ok (.ireturn, 1) := by decide +kernel
theorem d_C_spread_55 : decode prog_1_method_39_code 55 = .ok (.iload_n 1, 1) := by decide +kernel
theorem d_C_spread_56 : decode prog_1_method_39_code 56 = .ok (.ifCond .eq 10, 3) := by decide +kernel
theorem d_C_spread_59 : decode prog_1_method_39_code 59 = .ok (.aload_n 0, 1) := by decide +kernel
theorem d_C_spread_60 : decode prog_1_method_39_code 60 = .ok (.getfield 46, 3) := by decide +kernel
theorem d_C_spread_63 : decode prog_1_method_39_code 63 = .ok (.invokevirtual 281, 3) := by decide +kernel
theorem d_C_spread_66 : decode prog_1_method_39_code 66 = .ok (.iload_n 2, 1) := by decide +kernel
theorem d_C_spread_67 : decode prog_1_method_39_code 67 = .ok (.ireturn, 1) := by decide +kernel
theorem d_C_move_0 : decode prog_1_method_40_code 0 = .ok (.aload_n 0, 1) := by decide +kernel
theorem d_C_move_1 : decode prog_1_method_40_code 1 = .ok (.iload_n 1, 1) := by decide +kernel
theorem d_C_move_2 : decode prog_1_method_40_code 2 = .ok (.invokevirtual 182, 3) := by decide +kernel
theorem d_C_move_5 : decode prog_1_method_40_code 5 = .ok (.astore_n 3, 1) := by decide +kernel
theorem d_C_move_6 : decode prog_1_method_40_code 6 = .ok (.aload_n 0, 1) := by decide +kernel
theorem d_C_move_7 : decode prog_1_method_40_code 7 = .ok (.getfield 37, 3) := by decide +kernel
theorem d_C_move_10 : decode prog_1_method_40_code 10 = .ok (.iload_n 2, 1) := by decide +kernel
theorem d_C_move_11 : decode prog_1_method_40_code 11 = .ok (.invokevirtual 251, 3) := by decide +kernel
theorem d_C_move_14 : decode prog_1_method_40_code 14 = .ok (.astore 4, 2) := by decide +kernel
theorem d_C_move_16 : decode prog_1_method_40_code 16 = .ok (.aload_n 3, 1) := by decide +kernel
theorem d_C_move_17 : decode prog_1_method_40_code 17 = .ok (.ifnull 8, 3) := by decide +kernel
theorem d_C_move_20 : decode prog_1_method_40_code 20 = .ok (.aload 4, 2) := by decide +kernel
theorem d_C_move_22 : decode prog_1_method_40_code 22 = .ok (.ifnonnull 9, 3) := by decide +kernel
theorem d_C_move_25 : decode prog_1_method_40_code 25 = .ok (.aload_n 0, 1) := by decide +kernel
theorem d_C_move_26 : decode prog_1_method_40_code 26 = .ok (.iconst (-1), 1) := by decide +kernel
theorem d_C_move_27 : decode prog_1_method_40_code 27 = .ok (.invokevirtual 88, 3) := by decide +kernel
theorem d_C_move_30 : decode prog_1_method_40_code 30 = .ok (.ireturn, 1) := by decide +kernel
theorem d_C_move_31 : decode prog_1_method_40_code 31 = .ok (.aload_n 0, 1) := by decide +kernel
theorem d_C_move_32 : decode prog_1_method_40_code 32 = .ok (.getfield 81, 3) := by decide +kernel
theorem d_C_move_35 : decode prog_1_method_40_code 35 = .ok (.iconst 2, 1) := by decide +kernel
theorem d_C_move_36 : decode prog_1_method_40_code 36 = .ok (.if_icmp .ne 39, 3) := by decide +kernel
theorem d_C_move_39 : decode prog_1_method_40_code 39 = .ok (.aload_n 3, 1) := by decide +kernel
theorem d_C_move_40 : decode prog_1_method_40_code 40 = .ok (.invokevirtual 284, 3) := by decide +kernel
theorem d_C_move_43 : decode prog_1_method_40_code 43 = .ok (.ifCond .eq 32, 3) := by decide +kernel
theorem d_C_move_46 : decode prog_1_method_40_code 46 = .ok (.aload_n 3, 1) := by decide +kernel
theorem d_C_move_47 : decode prog_1_method_40_code 47 = .ok (.invokevirtual 287, 3) := by decide +kernel
theorem d_C_move_50 : decode prog_1_method_40_code 50 = .ok (.iload_n 2, 1) := by decide +kernel
theorem d_C_move_51 : decode prog_1_method_40_code 51 = .ok (.if_icmp .eq 24, 3) := by decide +kernel
theorem d_C_move_54 : decode prog_1_method_40_code 54 = .ok (.aload_n 0, 1) := by decide +kernel
theorem d_C_move_55 : decode prog_1_method_40_code 55 = .ok (.getfield 37, 3) := by decide +kernel
theorem d_C_move_58 : decode prog_1_method_40_code 58 = .ok (.iload_n 2, 1) := by decide +kernel
theorem d_C_move_59 : decode prog_1_method_40_code 59 = .ok (.invokevirtual 290, 3) := by decide +kernel
theorem d_C_move_62 : decode prog_1_method_40_code 62 = .ok (.aload_n 3, 1) := by decide +kernel
theorem d_C_move_63 : decode prog_1_method_40_code 63 = .ok (.invokevirtual 293, 3) := by decide +kernel
theorem d_C_move_66 : decode prog_1_method_40_code 66 = .ok (.iadd, 1) := by decide +kernel
theorem d_C_move_67 : decode prog_1_method_40_code 67 = .ok (.aload 4, 2) := by decide +kernel
theorem d_C_move_69 : decode prog_1_method_40_code 69 = .ok (.invokevirtual 296, 3) := by decide +kernel
theorem d_C_move_72 : decode prog_1_method_40_code 72 = .ok (.if_icmp .le 10, 3) := by decide +kernel
theorem d_C_move_75 : decode prog_1_method_40_code 75 = .ok (.aload_n 0, 1) := by decide +kernel
theorem d_C_move_76 : decode prog_1_method_40_code 76 = .ok (.bipush (-6), 2) := by decide +kernel
theorem d_C_move_78 : decode prog_1_method_40_code 78 = .ok (.invokevirtual 88, 3) := by decide +kernel
theorem d_C_move_81 : decode prog_1_method_40_code 81 = .ok (.ireturn, 1) := by decide +kernel
theorem d_C_move_82 : decode prog_1_method_40_code 82 = .ok (.aload_n 0, 1) := by decide +kernel
theorem d_C_move_83 : decode prog_1_method_40_code 83 = .ok (.getfield 37, 3) := by decide +kernel
theorem d_C_move_86 : decode prog_1_method_40_code 86 = .ok (.aload_n 0, 1) := by decide +kernel
theorem d_C_move_87 : decode prog_1_method_40_code 87 = .ok (.getfield 37, 3) := by decide +kernel
theorem d_C_move_90 : decode prog_1_method_40_code 90 = .ok (.aload_n 3, 1) := by decide +kernel
theorem d_C_move_91 : decode prog_1_method_40_code 91 = .ok (.aload 4, 2) := by decide +kernel
theorem d_C_move_93 : decode prog_1_method_40_code 93 = .ok (.invokevirtual 297, 3) := by decide +kernel
theorem d_C_move_96 : decode prog_1_method_40_code 96 = .ok (.invokevirtual 278, 3) := by decide +kernel
theorem d_C_move_99 : decode prog_1_method_40_code 99 = .ok (.ifCond .ne 10, 3) := by decide +kernel
theorem d_C_move_102 : decode prog_1_method_40_code 102 = .ok (.aload_n 0, 1) := by decide +kernel
theorem d_C_move_103 : decode prog_1_method_40_code 103 = .ok (.bipush (-7), 2) := by decide +kernel
theorem d_C_move_105 : decode prog_1_method_40_code 105 = .ok (.invokevirtual 88, 3) := by decide +kernel
theorem d_C_move_108 : decode prog_1_method_40_code 108 = .ok (.ireturn, 1) := by decide +kernel
theorem d_C_move_109 : decode prog_1_method_40_code 109 = .ok (.aload_n 0, 1) := by decide +kernel
theorem d_C_move_110 : decode prog_1_method_40_code 110 = .ok (.getfield 37, 3) := by decide +kernel
theorem d_C_move_113 : decode prog_1_method_40_code 113 = .ok (.aload_n 3, 1) := by decide +kernel
theorem d_C_move_114 : decode prog_1_method_40_code 114 = .ok (.iload_n 2, 1) := by decide +kernel
theorem d_C_move_115 : decode prog_1_method_40_code 115 = .ok (.invokevirtual 301, 3) := by decide +kernel
theorem d_C_move_118 : decode prog_1_method_40_code 118 = .ok (.ireturn, 1) := by decide +kernel
theorem d_C_weeks_0 : decode prog_1_method_41_code 0 = .ok (.iload_n 1, 1) := by decide +kernel
theorem d_C_weeks_1 : decode prog_1_method_41_code 1 = .ok (.iconst 1, 1) := by decide +kernel
theorem d_C_weeks_2 : decode prog_1_method_41_code 2 = .ok (.bipush 60, 2) := by decide +kernel
theorem d_C_weeks_4 : decode prog_1_method_41_code 4 = .ok (.invokestatic 84, 3) := by decide +kernel
theorem d_C_weeks_7 : decode prog_1_method_41_code 7 = .ok (.ifCond .eq 11, 3) := by decide +kernel
theorem d_C_weeks_10 : decode prog_1_method_41_code 10 = .ok (.aload_n 0, 1) := by decide +kernel
theorem d_C_weeks_11 : decode prog_1_method_41_code 11 = .ok (.getfield 81, 3) := by decide +kernel
theorem d_C_weeks_14 : decode prog_1_method_41_code 14 = .ok (.iconst 2, 1) := by decide +kernel
theorem d_C_weeks_15 : decode prog_1_method_41_code 15 = .ok (.if_icmp .eq 10, 3) := by decide +kernel
theorem d_C_weeks_18 : decode prog_1_method_41_code 18 = .ok (.aload_n 0, 1) := by decide +kernel
theorem d_C_weeks_19 : decode prog_1_method_41_code 19 = .ok (.bipush (-6), 2) := by decide +kernel
theorem d_C_weeks_21 : decode prog_1_method_41_code 21 = .ok (.invokevirtual 88, 3) := by decide +kernel
theorem d_C_weeks_24 : decode prog_1_method_41_code 24 = .ok (.ireturn, 1) := by decide +kernel
theorem d_C_weeks_25 : decode prog_1_method_41_code 25 = .ok (.aload_n 0, 1) := by decide +kernel
theorem d_C_weeks_26 : decode prog_1_method_41_code 26 = .ok (.getfield 37, 3) := by decide +kernel
theorem d_C_weeks_29 : decode prog_1_method_41_code 29 = .ok (.invokevirtual 305, 3) := by decide +kernel
theorem d_C_weeks_32 : decode prog_1_method_41_code 32 = .ok (.iload_n 1, 1) := by decide +kernel
theorem d_C_weeks_33 : decode prog_1_method_41_code 33 = .ok (.iadd, 1) := by decide +kernel
theorem d_C_weeks_34 : decode prog_1_method_41_code 34 = .ok (.sipush 1000, 3) := by decide +kernel
theorem d_C_weeks_37 : decode prog_1_method_41_code 37 = .ok (.if_icmp .le 10, 3) := by decide +kernel
theorem d_C_weeks_40 : decode prog_1_method_41_code 40 = .ok (.aload_n 0, 1) := by decide +kernel
theorem d_C_weeks_41 : decode prog_1_method_41_code 41 = .ok (.bipush (-7), 2) := by decide +kernel
theorem d_C_weeks_43 : decode prog_1_method_41_code 43 = .ok (.invokevirtual 88, 3) := by decide +kernel
theorem d_C_weeks_46 : decode prog_1_method_41_code 46 = .ok (.ireturn, 1) := by decide +kernel
theorem d_C_weeks_47 : decode prog_1_method_41_code 47 = .ok (.iconst 0, 1) := by decide +kernel
theorem d_C_weeks_48 : decode prog_1_method_41_code 48 = .ok (.istore_n 2, 1) := by decide +kernel
theorem d_C_weeks_49 : decode prog_1_method_41_code 49 = .ok (.iload_n 2, 1) := by decide +kernel
theorem d_C_weeks_50 : decode prog_1_method_41_code 50 = .ok (.iload_n 1, 1) := by decide +kernel
theorem d_C_weeks_51 : decode prog_1_method_41_code 51 = .ok (.if_icmp .ge 16, 3) := by decide +kernel
theorem d_C_weeks_54 : decode prog_1_method_41_code 54 = .ok (.aload_n 0, 1) := by decide +kernel
theorem d_C_weeks_55 : decode prog_1_method_41_code 55 = .ok (.getfield 37, 3) := by decide +kernel
theorem d_C_weeks_58 : decode prog_1_method_41_code 58 = .ok (.invokevirtual 308, 3) := by decide +kernel
theorem d_C_weeks_61 : decode prog_1_method_41_code 61 = .ok (.iinc 2 1, 3) := by decide +kernel
theorem d_C_weeks_64 : decode prog_1_method_41_code 64 = .ok (.goto (-15), 3) := by decide +kernel
theorem d_C_weeks_67 : decode prog_1_method_41_code 67 = .ok (.aload_n 0, 1) := by decide +kernel
theorem d_C_weeks_68 : decode prog_1_method_41_code 68 = .ok (.getfield 37, 3) := by decide +kernel
theorem d_C_weeks_71 : decode prog_1_method_41_code 71 = .ok (.invokevirtual 305, 3) := by decide +kernel
theorem d_C_weeks_74 : decode prog_1_method_41_code 74 = .ok (.ireturn, 1) := by decide +kernel
theorem d_C_lose_0 : decode prog_1_method_42_code 0 = .ok (.iload_n 1, 1) := by decide +kernel
theorem d_C_lose_1 : decode prog_1_method_42_code 1 = .ok (.iconst 0, 1) := by decide +kernel
theorem d_C_lose_2 : decode prog_1_method_42_code 2 = .ok (.iconst 3, 1) := by decide +kernel
theorem d_C_lose_3 : decode prog_1_method_42_code 3 = .ok (.invokestatic 84, 3) := by decide +kernel
theorem d_C_lose_6 : decode prog_1_method_42_code 6 = .ok (.ifCond .ne 9, 3) := by decide +kernel
theorem d_C_lose_9 : decode prog_1_method_42_code 9 = .ok (.aload_n 0, 1) := by decide +kernel
theorem d_C_lose_10 : decode prog_1_method_42_code 10 = .ok (.iconst (-1), 1) := by decide +kernel
theorem d_C_lose_11 : decode prog_1_method_42_code 11 = .ok (.invokevirtual 88, 3) := by decide +kernel
theorem d_C_lose_14 : decode prog_1_method_42_code 14 = .ok (.ireturn, 1) := by decide +kernel
theorem d_C_lose_15 : decode prog_1_method_42_code 15 = .ok (.aload_n 0, 1) := by decide +kernel
theorem d_C_lose_16 : decode prog_1_method_42_code 16 = .ok (.getfield 81, 3) := by decide +kernel
theorem d_C_lose_19 : decode prog_1_method_42_code 19 = .ok (.iconst 2, 1) := by decide +kernel
theorem d_C_lose_20 : decode prog_1_method_42_code 20 = .ok (.if_icmp .ne 14, 3) := by decide +kernel
theorem d_C_lose_23 : decode prog_1_method_42_code 23 = .ok (.aload_n 0, 1) := by decide +kernel
theorem d_C_lose_24 : decode prog_1_method_42_code 24 = .ok (.getfield 37, 3) := by decide +kernel
theorem d_C_lose_27 : decode prog_1_method_42_code 27 = .ok (.iload_n 1, 1) := by decide +kernel
theorem d_C_lose_28 : decode prog_1_method_42_code 28 = .ok (.invokevirtual 311, 3) := by decide +kernel
theorem d_C_lose_31 : decode prog_1_method_42_code 31 = .ok (.goto 9, 3) := by decide +kernel
theorem d_C_lose_34 : decode prog_1_method_42_code 34 = .ok (.aload_n 0, 1) := by decide +kernel
theorem d_C_lose_35 : decode prog_1_method_42_code 35 = .ok (.bipush (-6), 2) := by decide +kernel
theorem d_C_lose_37 : decode prog_1_method_42_code 37 = .ok (.invokevirtual 88, 3) := by decide +kernel
theorem d_C_lose_40 : decode prog_1_method_42_code 40 = .ok (.ireturn, 1) := by decide +kernel
theorem d_C_found_0 : decode prog_1_method_43_code 0 = .ok (.aload_n 0, 1) := by decide +kernel
theorem d_C_found_1 : decode prog_1_method_43_code 1 = .ok (.iload_n 1, 1) := by decide +kernel
theorem d_C_found_2 : decode prog_1_method_43_code 2 = .ok (.invokevirtual 182, 3) := by decide +kernel
theorem d_C_found_5 : decode prog_1_method_43_code 5 = .ok (.astore_n 2, 1) := by decide +kernel
theorem d_C_found_6 : decode prog_1_method_43_code 6 = .ok (.aload_n 2, 1) := by decide +kernel
theorem d_C_found_7 : decode prog_1_method_43_code 7 = .ok (.ifnonnull 9, 3) := by decide +kernel
theorem d_C_found_10 : decode prog_1_method_43_code 10 = .ok (.aload_n 0, 1) := by decide +kernel
theorem d_C_found_11 : decode prog_1_method_43_code 11 = .ok (.iconst (-1), 1) := by decide +kernel
theorem d_C_found_12 : decode prog_1_method_43_code 12 = .ok (.invokevirtual 88, 3) := by decide +kernel
theorem d_C_found_15 : decode prog_1_method_43_code 15 = .ok (.ireturn, 1) := by decide +kernel
theorem d_C_found_16 : decode prog_1_method_43_code 16 = .ok (.aload_n 0, 1) := by decide +kernel
theorem d_C_found_17 : decode prog_1_method_43_code 17 = .ok (.getfield 81, 3) := by decide +kernel
theorem d_C_found_20 : decode prog_1_method_43_code 20 = .ok (.iconst 2, 1) := by decide +kernel
theorem d_C_found_21 : decode prog_1_method_43_code 21 = .ok (.if_icmp .ne 13, 3) := by decide +kernel
theorem d_C_found_24 : decode prog_1_method_43_code 24 = .ok (.aload_n 2, 1) := by decide +kernel
theorem d_C_found_25 : decode prog_1_method_43_code 25 = .ok (.invokevirtual 314, 3) := by decide +kernel
theorem d_C_found_28 : decode prog_1_method_43_code 28 = .ok (.sipush 500, 3) := by decide +kernel
theorem d_C_found_31 : decode prog_1_method_43_code 31 = .ok (.if_icmp .eq 10, 3) := by decide +kernel
theorem d_C_found_34 : decode prog_1_method_43_code 34 = .ok (.aload_n 0, 1) := by decide +kernel
theorem d_C_found_35 : decode prog_1_method_43_code 35 = .ok (.bipush (-6), 2) := by decide +kernel
theorem d_C_found_37 : decode prog_1_method_43_code 37 = .ok (.invokevirtual 88, 3) := by decide +kernel
theorem d_C_found_40 : decode prog_1_method_43_code 40 = .ok (.ireturn, 1) := by decide +kernel
theorem d_C_found_41 : decode prog_1_method_43_code 41 = .ok (.aload_n 2, 1) := by decide +kernel
theorem d_C_found_42 : decode prog_1_method_43_code 42 = .ok (.sipush 300, 3) := by decide +kernel
theorem d_C_found_45 : decode prog_1_method_43_code 45 = .ok (.aload_n 0, 1) := by decide +kernel
theorem d_C_found_46 : decode prog_1_method_43_code 46 = .ok (.getfield 37, 3) := by decide +kernel
theorem d_C_found_49 : decode prog_1_method_43_code 49 = .ok (.invokevirtual 317, 3) := by decide +kernel
theorem d_C_found_52 : decode prog_1_method_43_code 52 = .ok (.invokevirtual 320, 3) := by decide +kernel
theorem d_C_found_55 : decode prog_1_method_43_code 55 = .ok (.iconst 1, 1) := by decide +kernel
theorem d_C_found_56 : decode prog_1_method_43_code 56 = .ok (.ireturn, 1) := by decide +kernel
theorem d_C_paper_0 : decode prog_1_method_44_code 0 = .ok (.aload_n 0, 1) := by decide +kernel
theorem d_C_paper_1 : decode prog_1_method_44_code 1 = .ok (.iload_n 1, 1) := by decide +kernel
theorem d_C_paper_2 : decode prog_1_method_44_code 2 = .ok (.invokevirtual 182, 3) := by decide +kernel
theorem d_C_paper_5 : decode prog_1_method_44_code 5 = .ok (.astore 5, 2) := by decide +kernel
theorem d_C_paper_7 : decode prog_1_method_44_code 7 = .ok (.aload 5, 2) := by decide +kernel
theorem d_C_paper_9 : decode prog_1_method_44_code 9 = .ok (.ifnonnull 9, 3) := by decide +kernel
theorem d_C_paper_12 : decode prog_1_method_44_code 12 = .ok (.aload_n 0, 1) := by decide +kernel
theorem d_C_paper_13 : decode prog_1_method_44_code 13 = .ok (.iconst (-1), 1) := by decide +kernel
theorem d_C_paper_14 : decode prog_1_method_44_code 14 = .ok (.invokevirtual 88, 3) := by decide +kernel
theorem d_C_paper_17 : decode prog_1_method_44_code 17 = .ok (.ireturn, 1) := by decide +kernel
theorem d_C_paper_18 : decode prog_1_method_44_code 18 = .ok (.iload_n 2, 1) := by decide +kernel
theorem d_C_paper_19 : decode prog_1_method_44_code 19 = .ok (.iconst 0, 1) := by decide +kernel
theorem d_C_paper_20 : decode prog_1_method_44_code 20 = .ok (.bipush 9, 2) := by decide +kernel
theorem d_C_paper_22 : decode prog_1_method_44_code 22 = .ok (.invokestatic 84, 3) := by decide +kernel
theorem d_C_paper_25 : decode prog_1_method_44_code 25 = .ok (.ifCond .eq 21, 3) := by decide +kernel
theorem d_C_paper_28 : decode prog_1_method_44_code 28 = .ok (.iload_n 3, 1) := by decide +kernel
theorem d_C_paper_29 : decode prog_1_method_44_code 29 = .ok (.ifCond .lt 17, 3) := by decide +kernel
theorem d_C_paper_32 : decode prog_1_method_44_code 32 = .ok (.iload_n 3, 1) := by decide +kernel
theorem d_C_paper_33 : decode prog_1_method_44_code 33 = .ok (.iload 4, 2) := by decide +kernel
theorem d_C_paper_35 : decode prog_1_method_44_code 35 = .ok (.if_icmp .gt 11, 3) := by decide +kernel
theorem d_C_paper_38 : decode prog_1_method_44_code 38 = .ok (.iload 4, 2) := by decide +kernel
theorem d_C_paper_40 : decode prog_1_method_44_code 40 = .ok (.sipush 200, 3) := by decide +kernel
theorem d_C_paper_43 : decode prog_1_method_44_code 43 = .ok (.if_icmp .le 10, 3) := by decide +kernel
theorem d_C_paper_46 : decode prog_1_method_44_code 46 = .ok (.aload_n 0, 1) := by decide +kernel
theorem d_C_paper_47 : decode prog_1_method_44_code 47 = .ok (.bipush (-6), 2) := by decide +kernel
theorem d_C_paper_49 : decode prog_1_method_44_code 49 = .ok (.invokevirtual 88, 3) := by decide +kernel
theorem d_C_paper_52 : decode prog_1_method_44_code 52 = .ok (.ireturn, 1) := by decide +kernel
theorem d_C_paper_53 : decode prog_1_method_44_code 53 = .ok (.aload 5, 2) := by decide +kernel
theorem d_C_paper_55 : decode prog_1_method_44_code 55 = .ok (.invokevirtual 323, 3) := by decide +kernel
theorem d_C_paper_58 : decode prog_1_method_44_code 58 = .ok (.bipush 6, 2) := by decide +kernel
theorem d_C_paper_60 : decode prog_1_method_44_code 60 = .ok (.if_icmp .lt 12, 3) := by decide +kernel
theorem d_C_paper_63 : decode prog_1_method_44_code 63 = .ok (.aload_n 0, 1) := by decide +kernel
theorem d_C_paper_64 : decode prog_1_method_44_code 64 = .ok (.bipush (-7), 2) := by decide +kernel
theorem d_C_paper_66 : decode prog_1_method_44_code 66 = .ok (.invokevirtual 88, 3) := by decide +kernel
theorem d_C_paper_69 : decode prog_1_method_44_code 69 = .ok (.goto 12, 3) := by decide +kernel
theorem d_C_paper_72 : decode prog_1_method_44_code 72 = .ok (.aload 5, 2) := by decide +kernel
theorem d_C_paper_74 : decode prog_1_method_44_code 74 = .ok (.iload_n 2, 1) := by decide +kernel
theorem d_C_paper_75 : decode prog_1_method_44_code 75 = .ok (.iload_n 3, 1) := by decide +kernel
theorem d_C_paper_76 : decode prog_1_method_44_code 76 = .ok (.iload 4, 2) := by decide +kernel
theorem d_C_paper_78 : decode prog_1_method_44_code 78 = .ok (.invokevirtual 326, 3) := by decide +kernel
theorem d_C_paper_81 : decode prog_1_method_44_code 81 = .ok (.ireturn, 1) := by decide +kernel
theorem d_C_holder_0 : decode prog_1_method_45_code 0 = .ok (.aload_n 0, 1) := by decide +kernel
theorem d_C_holder_1 : decode prog_1_method_45_code 1 = .ok (.iload_n 1, 1) := by decide +kernel
theorem d_C_holder_2 : decode prog_1_method_45_code 2 = .ok (.invokevirtual 182, 3) := by decide +kernel
theorem d_C_holder_5 : decode prog_1_method_45_code 5 = .ok (.astore_n 3, 1) := by decide +kernel
theorem d_C_holder_6 : decode prog_1_method_45_code 6 = .ok (.aload_n 3, 1) := by decide +kernel
theorem d_C_holder_7 : decode prog_1_method_45_code 7 = .ok (.ifnonnull 7, 3) := by decide +kernel
theorem d_C_holder_10 : decode prog_1_method_45_code 10 = .ok (.iconst (-1), 1) := by decide +kernel
theorem d_C_holder_11 : decode prog_1_method_45_code 11 = .ok (.goto 8, 3) := by decide +kernel
theorem d_C_holder_14 : decode prog_1_method_45_code 14 = .ok (.aload_n 3, 1) := by decide +kernel
theorem d_C_holder_15 : decode prog_1_method_45_code 15 = .ok (.iload_n 2, 1) := by decide +kernel
theorem d_C_holder_16 : decode prog_1_method_45_code 16 = .ok (.invokevirtual 329, 3) := by decide +kernel
theorem d_C_holder_19 : decode prog_1_method_45_code 19 = .ok (.ireturn, 1) := by decide +kernel
theorem d_C_giveBack_0 : decode prog_1_method_46_code 0 = .ok (.aload_n 0, 1) := by decide +kernel
theorem d_C_giveBack_1 : decode prog_1_method_46_code 1 = .ok (.iload_n 1, 1) := by decide +kernel
theorem d_C_giveBack_2 : decode prog_1_method_46_code 2 = .ok (.invokevirtual 182, 3) := by decide +kernel
theorem d_C_giveBack_5 : decode prog_1_method_46_code 5 = .ok (.astore_n 3, 1) := by decide +kernel
theorem d_C_giveBack_6 : decode prog_1_method_46_code 6 = .ok (.aload_n 3, 1) := by decide +kernel
theorem d_C_giveBack_7 : decode prog_1_method_46_code 7 = .ok (.ifnonnull 9, 3) := by decide +kernel
theorem d_C_giveBack_10 : decode prog_1_method_46_code 10 = .ok (.aload_n 0, 1) := by decide +kernel
theorem d_C_giveBack_11 : decode prog_1_method_46_code 11 = .ok (.iconst (-1), 1) := by decide +kernel
theorem d_C_giveBack_12 : decode prog_1_method_46_code 12 = .ok (.invokevirtual 88, 3) := by decide +kernel
theorem d_C_giveBack_15 : decode prog_1_method_46_code 15 = .ok (.ireturn, 1) := by decide +kernel
theorem d_C_giveBack_16 : decode prog_1_method_46_code 16 = .ok (.aload_n 3, 1) := by decide +kernel
theorem d_C_giveBack_17 : decode prog_1_method_46_code 17 = .ok (.iload_n 2, 1) := by decide +kernel
theorem d_C_giveBack_18 : decode prog_1_method_46_code 18 = .ok (.invokevirtual 329, 3) := by decide +kernel
theorem d_C_giveBack_21 : decode prog_1_method_46_code 21 = .ok (.istore 4, 2) := by decide +kernel
theorem d_C_giveBack_23 : decode prog_1_method_46_code 23 = .ok (.aload_n 0, 1) := by decide +kernel
theorem d_C_giveBack_24 : decode prog_1_method_46_code 24 = .ok (.getfield 81, 3) := by decide +kernel
theorem d_C_giveBack_27 : decode prog_1_method_46_code 27 = .ok (.iconst 2, 1) := by decide +kernel
theorem d_C_giveBack_28 : decode prog_1_method_46_code 28 = .ok (.if_icmp .ne 23, 3) := by decide +kernel
theorem d_C_giveBack_31 : decode prog_1_method_46_code 31 = .ok (.aload_n 3, 1) := by decide +kernel
theorem d_C_giveBack_32 : decode prog_1_method_46_code 32 = .ok (.invokevirtual 284, 3) := by decide +kernel
theorem d_C_giveBack_35 : decode prog_1_method_46_code 35 = .ok (.ifCond .eq 16, 3) := by decide +kernel
theorem d_C_giveBack_38 : decode prog_1_method_46_code 38 = .ok (.iload 4, 2) := by decide +kernel
theorem d_C_giveBack_40 : decode prog_1_method_46_code 40 = .ok (.iconst (-1), 1) := by decide +kernel
theorem d_C_giveBack_41 : decode prog_1_method_46_code 41 = .ok (.if_icmp .eq 10, 3) := by decide +kernel
theorem d_C_giveBack_44 : decode prog_1_method_46_code 44 = .ok (.iload 4, 2) := by decide +kernel
theorem d_C_giveBack_46 : decode prog_1_method_46_code 46 = .ok (.bipush 100, 2) := by decide +kernel
theorem d_C_giveBack_48 : decode prog_1_method_46_code 48 = .ok (.if_icmp .ne 10, 3) := by decide +kernel
theorem d_C_giveBack_51 : decode prog_1_method_46_code 51 = .ok (.aload_n 0, 1) := by decide +kernel
theorem d_C_giveBack_52 : decode prog_1_method_46_code 52 = .ok (.bipush (-6), 2) := by decide +kernel
theorem d_C_giveBack_54 : decode prog_1_method_46_code 54 = .ok (.invokevirtual 88, 3) := by decide +kernel
theorem d_C_giveBack_57 : decode prog_1_method_46_code 57 = .ok (.ireturn, 1) := by decide +kernel
theorem d_C_giveBack_58 : decode prog_1_method_46_code 58 = .ok (.aload_n 3, 1) := by decide +kernel
theorem d_C_giveBack_59 : decode prog_1_method_46_code 59 = .ok (.sipush 600, 3) := by decide +kernel
theorem d_C_giveBack_62 : decode prog_1_method_46_code 62 = .ok (.iload 4, 2) := by decide +kernel
theorem d_C_giveBack_64 : decode prog_1_method_46_code 64 = .ok (.iadd, 1) := by decide +kernel
theorem d_C_giveBack_65 : decode prog_1_method_46_code 65 = .ok (.aload_n 0, 1) := by decide +kernel
theorem d_C_giveBack_66 : decode prog_1_method_46_code 66 = .ok (.getfield 37, 3) := by decide +kernel
theorem d_C_giveBack_69 : decode prog_1_method_46_code 69 = .ok (.invokevirtual 317, 3) := by decide +kernel
theorem d_C_giveBack_72 : decode prog_1_method_46_code 72 = .ok (.invokevirtual 320, 3) := by decide +kernel
theorem d_C_giveBack_75 : decode prog_1_method_46_code 75 = .ok (.iload 4, 2) := by decide +kernel
theorem d_C_giveBack_77 : decode prog_1_method_46_code 77 = .ok (.ireturn, 1) := by decide +kernel
theorem d_C_about_0 : decode prog_1_method_47_code 0 = .ok (.aload_n 0, 1) := by decide +kernel
theorem d_C_about_1 : decode prog_1_method_47_code 1 = .ok (.iload_n 1, 1) := by decide +kernel
theorem d_C_about_2 : decode prog_1_method_47_code 2 = .ok (.invokevirtual 182, 3) := by decide +kernel
theorem d_C_about_5 : decode prog_1_method_47_code 5 = .ok (.astore_n 3, 1) := by decide +kernel
theorem d_C_about_6 : decode prog_1_method_47_code 6 = .ok (.aload_n 3, 1) := by decide +kernel
theorem d_C_about_7 : decode prog_1_method_47_code 7 = .ok (.ifnonnull 7, 3) := by decide +kernel
theorem d_C_about_10 : decode prog_1_method_47_code 10 = .ok (.iconst (-1), 1) := by decide +kernel
theorem d_C_about_11 : decode prog_1_method_47_code 11 = .ok (.goto 8, 3) := by decide +kernel
theorem d_C_about_14 : decode prog_1_method_47_code 14 = .ok (.aload_n 3, 1) := by decide +kernel
theorem d_C_about_15 : decode prog_1_method_47_code 15 = .ok (.iload_n 2, 1) := by decide +kernel
theorem d_C_about_16 : decode prog_1_method_47_code 16 = .ok (.invokevirtual 332, 3) := by decide +kernel
theorem d_C_about_19 : decode prog_1_method_47_code 19 = .ok (.ireturn, 1) := by decide +kernel
theorem d_C_seal_0 : decode prog_1_method_48_code 0 = .ok (.aload_n 0, 1) := by decide +kernel
theorem d_C_seal_1 : decode prog_1_method_48_code 1 = .ok (.iload_n 1, 1) := by decide +kernel
theorem d_C_seal_2 : decode prog_1_method_48_code 2 = .ok (.invokevirtual 182, 3) := by decide +kernel
theorem d_C_seal_5 : decode prog_1_method_48_code 5 = .ok (.astore 4, 2) := by decide +kernel
theorem d_C_seal_7 : decode prog_1_method_48_code 7 = .ok (.aload 4, 2) := by decide +kernel
theorem d_C_seal_9 : decode prog_1_method_48_code 9 = .ok (.ifnonnull 7, 3) := by decide +kernel
theorem d_C_seal_12 : decode prog_1_method_48_code 12 = .ok (.iconst (-1), 1) := by decide +kernel
theorem d_C_seal_13 : decode prog_1_method_48_code 13 = .ok (.goto 10, 3) := by decide +kernel
theorem d_C_seal_16 : decode prog_1_method_48_code 16 = .ok (.aload 4, 2) := by decide +kernel
theorem d_C_seal_18 : decode prog_1_method_48_code 18 = .ok (.iload_n 2, 1) := by decide +kernel
theorem d_C_seal_19 : decode prog_1_method_48_code 19 = .ok (.iload_n 3, 1) := by decide +kernel
theorem d_C_seal_20 : decode prog_1_method_48_code 20 = .ok (.invokevirtual 335, 3) := by decide +kernel
theorem d_C_seal_23 : decode prog_1_method_48_code 23 = .ok (.ireturn, 1) := by decide +kernel
theorem d_C_quarrel_0 : decode prog_1_method_49_code 0 = .ok (.aload_n 0, 1) := by decide +kernel
theorem d_C_quarrel_1 : decode prog_1_method_49_code 1 = .ok (.iload_n 1, 1) := by decide +kernel
theorem d_C_quarrel_2 : decode prog_1_method_49_code 2 = .ok (.iload_n 2, 1) := by decide +kernel
theorem d_C_quarrel_3 : decode prog_1_method_49_code 3 = .ok (.iload_n 3, 1) := by decide +kernel
theorem d_C_quarrel_4 : decode prog_1_method_49_code 4 = .ok (.invokevirtual 164, 3) := by decide +kernel
theorem d_C_quarrel_7 : decode prog_1_method_49_code 7 = .ok (.istore 4, 2) := by decide +kernel
theorem d_C_quarrel_9 : decode prog_1_method_49_code 9 = .ok (.iload 4, 2) := by decide +kernel
theorem d_C_quarrel_11 : decode prog_1_method_49_code 11 = .ok (.ifCond .eq 10, 3) := by decide +kernel
theorem d_C_quarrel_14 : decode prog_1_method_49_code 14 = .ok (.aload_n 0, 1) := by decide +kernel
theorem d_C_quarrel_15 : decode prog_1_method_49_code 15 = .ok (.iload 4, 2) := by decide +kernel
theorem d_C_quarrel_17 : decode prog_1_method_49_code 17 = .ok (.invokevirtual 88, 3) := by decide +kernel
theorem d_C_quarrel_20 : decode prog_1_method_49_code 20 = .ok (.ireturn, 1) := by decide +kernel
theorem d_C_quarrel_21 : decode prog_1_method_49_code 21 = .ok (.aload_n 0, 1) := by decide +kernel
theorem d_C_quarrel_22 : decode prog_1_method_49_code 22 = .ok (.iload_n 1, 1) := by decide +kernel
theorem d_C_quarrel_23 : decode prog_1_method_49_code 23 = .ok (.invokevirtual 110, 3) := by decide +kernel
theorem d_C_quarrel_26 : decode prog_1_method_49_code 26 = .ok (.astore 5, 2) := by decide +kernel
theorem d_C_quarrel_28 : decode prog_1_method_49_code 28 = .ok (.aload_n 0, 1) := by decide +kernel
theorem d_C_quarrel_29 : decode prog_1_method_49_code 29 = .ok (.iload_n 2, 1) := by decide +kernel
theorem d_C_quarrel_30 : decode prog_1_method_49_code 30 = .ok (.invokevirtual 110, 3) := by decide +kernel
theorem d_C_quarrel_33 : decode prog_1_method_49_code 33 = .ok (.astore 6, 2) := by decide +kernel
theorem d_C_quarrel_35 : decode prog_1_method_49_code 35 = .ok (.aload_n 0, 1) := by decide +kernel
theorem d_C_quarrel_36 : decode prog_1_method_49_code 36 = .ok (.iload_n 3, 1) := by decide +kernel
theorem d_C_quarrel_37 : decode prog_1_method_49_code 37 = .ok (.invokevirtual 110, 3) := by decide +kernel
theorem d_C_quarrel_40 : decode prog_1_method_49_code 40 = .ok (.astore 7, 2) := by decide +kernel
theorem d_C_quarrel_42 : decode prog_1_method_49_code 42 = .ok (.iconst 0, 1) := by decide +kernel
theorem d_C_quarrel_43 : decode prog_1_method_49_code 43 = .ok (.istore 8, 2) := by decide +kernel
theorem d_C_quarrel_45 : decode prog_1_method_49_code 45 = .ok (.iconst 0, 1) := by decide +kernel
theorem d_C_quarrel_46 : decode prog_1_method_49_code 46 = .ok (.istore 9, 2) := by decide +kernel
theorem d_C_quarrel_48 : decode prog_1_method_49_code 48 = .ok (.iload 9, 2) := by decide +kernel
theorem d_C_quarrel_50 : decode prog_1_method_49_code 50 = .ok (.aload_n 0, 1) := by decide +kernel
theorem d_C_quarrel_51 : decode prog_1_method_49_code 51 = .ok (.getfield 12, 3) := by decide +kernel
theorem d_C_quarrel_54 : decode prog_1_method_49_code 54 = .ok (.invokevirtual 124, 3) := by decide +kernel
theorem d_C_quarrel_57 : decode prog_1_method_49_code 57 = .ok (.if_icmp .ge 27, 3) := by decide +kernel
theorem d_C_quarrel_60 : decode prog_1_method_49_code 60 = .ok (.iload 8, 2) := by decide +kernel
theorem d_C_quarrel_62 : decode prog_1_method_49_code 62 = .ok (.iconst 3, 1) := by decide +kernel
theorem d_C_quarrel_63 : decode prog_1_method_49_code 63 = .ok (.aload 5, 2) := by decide +kernel
theorem d_C_quarrel_65 : decode prog_1_method_49_code 65 = .ok (.aload 6, 2) := by decide +kernel
theorem d_C_quarrel_67 : decode prog_1_method_49_code 67 = .ok (.aload 7, 2) := by decide +kernel
theorem d_C_quarrel_69 : decode prog_1_method_49_code 69 = .ok (.iload 9, 2) := by decide +kernel
theorem d_C_quarrel_71 : decode prog_1_method_49_code 71 = .ok (.invokestatic 338, 3) := by decide +kernel
theorem d_C_quarrel_74 : decode prog_1_method_49_code 74 = .ok (.isub, 1) := by decide +kernel
theorem d_C_quarrel_75 : decode prog_1_method_49_code 75 = .ok (.iadd, 1) := by decide +kernel
theorem d_C_quarrel_76 : decode prog_1_method_49_code 76 = .ok (.istore 8, 2) := by decide +kernel
theorem d_C_quarrel_78 : decode prog_1_method_49_code 78 = .ok (.iinc 9 1, 3) := by decide +kernel
theorem d_C_quarrel_81 : decode prog_1_method_49_code 81 = .ok (.goto (-33), 3) := by decide +kernel
theorem d_C_quarrel_84 : decode prog_1_method_49_code 84 = .ok (.iload 8, 2) := by decide +kernel
theorem d_C_quarrel_86 : decode prog_1_method_49_code 86 = .ok (.ireturn, 1) := by decide +kernel
theorem d_C_said_0 : decode prog_1_method_50_code 0 = .ok (.aload_n 0, 1) := by decide +kernel
theorem d_C_said_1 : decode prog_1_method_50_code 1 = .ok (.iload_n 1, 1) := by decide +kernel
theorem d_C_said_2 : decode prog_1_method_50_code 2 = .ok (.invokevirtual 110, 3) := by decide +kernel
theorem d_C_said_5 : decode prog_1_method_50_code 5 = .ok (.astore 5, 2) := by decide +kernel
theorem d_C_said_7 : decode prog_1_method_50_code 7 = .ok (.aload_n 0, 1) := by decide +kernel
theorem d_C_said_8 : decode prog_1_method_50_code 8 = .ok (.iload_n 2, 1) := by decide +kernel
theorem d_C_said_9 : decode prog_1_method_50_code 9 = .ok (.invokevirtual 110, 3) := by decide +kernel
theorem d_C_said_12 : decode prog_1_method_50_code 12 = .ok (.astore 6, 2) := by decide +kernel
theorem d_C_said_14 : decode prog_1_method_50_code 14 = .ok (.aload_n 0, 1) := by decide +kernel
theorem d_C_said_15 : decode prog_1_method_50_code 15 = .ok (.iload_n 3, 1) := by decide +kernel
theorem d_C_said_16 : decode prog_1_method_50_code 16 = .ok (.invokevirtual 110, 3) := by decide +kernel
theorem d_C_said_19 : decode prog_1_method_50_code 19 = .ok (.astore 7, 2) := by decide +kernel
theorem d_C_said_21 : decode prog_1_method_50_code 21 = .ok (.aload 5, 2) := by decide +kernel
theorem d_C_said_23 : decode prog_1_method_50_code 23 = .ok (.ifnull 22, 3) := by decide +kernel
theorem d_C_said_26 : decode prog_1_method_50_code 26 = .ok (.aload 6, 2) := by decide +kernel
theorem d_C_said_28 : decode prog_1_method_50_code 28 = .ok (.ifnull 17, 3) := by decide +kernel
theorem d_C_said_31 : decode prog_1_method_50_code 31 = .ok (.aload 7, 2) := by decide +kernel
theorem d_C_said_33 : decode prog_1_method_50_code 33 = .ok (.ifnull 12, 3) := by decide +kernel
theorem d_C_said_36 : decode prog_1_method_50_code 36 = .ok (.aload_n 0, 1) := by decide +kernel
theorem d_C_said_37 : decode prog_1_method_50_code 37 = .ok (.iload 4, 2) := by decide +kernel
theorem d_C_said_39 : decode prog_1_method_50_code 39 = .ok (.invokevirtual 182, 3) := by decide +kernel
theorem d_C_said_42 : decode prog_1_method_50_code 42 = .ok (.ifnonnull 7, 3) := by decide +kernel
theorem d_C_said_45 : decode prog_1_method_50_code 45 = .ok (.ldc2_w 342, 3) := by decide +kernel
theorem d_C_said_48 : decode prog_1_method_50_code 48 = .ok (.lreturn, 1) := by decide +kernel
theorem d_C_said_49 : decode prog_1_method_50_code 49 = .ok (.aload 5, 2) := by decide +kernel
theorem d_C_said_51 : decode prog_1_method_50_code 51 = .ok (.aload 6, 2) := by decide +kernel
theorem d_C_said_53 : decode prog_1_method_50_code 53 = .ok (.iload 4, 2) := by decide +kernel
theorem d_C_said_55 : decode prog_1_method_50_code 55 = .ok (.invokevirtual 344, 3) := by decide +kernel
theorem d_C_said_58 : decode prog_1_method_50_code 58 = .ok (.ifCond .ne 15, 3) := by decide +kernel
theorem d_C_said_61 : decode prog_1_method_50_code 61 = .ok (.aload 5, 2) := by decide +kernel
theorem d_C_said_63 : decode prog_1_method_50_code 63 = .ok (.aload 7, 2) := by decide +kernel
theorem d_C_said_65 : decode prog_1_method_50_code 65 = .ok (.iload 4, 2) := by decide +kernel
theorem d_C_said_67 : decode prog_1_method_50_code 67 = .ok (.invokevirtual 344, 3) := by decide +kernel
theorem d_C_said_70 : decode prog_1_method_50_code 70 = .ok (.ifCond .eq 11, 3) := by decide +kernel
theorem d_C_said_73 : decode prog_1_method_50_code 73 = .ok (.aload 5, 2) := by decide +kernel
theorem d_C_said_75 : decode prog_1_method_50_code 75 = .ok (.iload 4, 2) := by decide +kernel
theorem d_C_said_77 : decode prog_1_method_50_code 77 = .ok (.invokevirtual 178, 3) := by decide +kernel
theorem d_C_said_80 : decode prog_1_method_50_code 80 = .ok (.lreturn, 1) := by decide +kernel
theorem d_C_said_81 : decode prog_1_method_50_code 81 = .ok (.aload 6, 2) := by decide +kernel
theorem d_C_said_83 : decode prog_1_method_50_code 83 = .ok (.aload 7, 2) := by decide +kernel
theorem d_C_said_85 : decode prog_1_method_50_code 85 = .ok (.iload 4, 2) := by decide +kernel
theorem d_C_said_87 : decode prog_1_method_50_code 87 = .ok (.invokevirtual 344, 3) := by decide +kernel
theorem d_C_said_90 : decode prog_1_method_50_code 90 = .ok (.ifCond .eq 13, 3) := by decide +kernel
theorem d_C_said_93 : decode prog_1_method_50_code 93 = .ok (.aload 6, 2) := by decide +kernel
theorem d_C_said_95 : decode prog_1_method_50_code 95 = .ok (.iload 4, 2) := by decide +kernel
theorem d_C_said_97 : decode prog_1_method_50_code 97 = .ok (.invokevirtual 178, 3) := by decide +kernel
theorem d_C_said_100 : decode prog_1_method_50_code 100 = .ok (.goto 6, 3) := by decide +kernel
theorem d_C_said_103 : decode prog_1_method_50_code 103 = .ok (.ldc2_w 342, 3) := by decide +kernel
theorem d_C_said_106 : decode prog_1_method_50_code 106 = .ok (.lreturn, 1) := by decide +kernel
theorem d_C_status_0 : decode prog_1_method_51_code 0 = .ok (.iload_n 1, 1) := by decide +kernel
theorem d_C_status_1 : decode prog_1_method_51_code 1 = .ok (.iconst 4, 1) := by decide +kernel
theorem d_C_status_2 : decode prog_1_method_51_code 2 = .ok (.bipush 9, 2) := by decide +kernel
theorem d_C_status_4 : decode prog_1_method_51_code 4 = .ok (.invokestatic 84, 3) := by decide +kernel
theorem d_C_status_7 : decode prog_1_method_51_code 7 = .ok (.ifCond .eq 14, 3) := by decide +kernel
theorem d_C_status_10 : decode prog_1_method_51_code 10 = .ok (.aload_n 0, 1) := by decide +kernel
theorem d_C_status_11 : decode prog_1_method_51_code 11 = .ok (.iload_n 1, 1) := by decide +kernel
theorem d_C_status_12 : decode prog_1_method_51_code 12 = .ok (.iconst 3, 1) := by decide +kernel
theorem d_C_status_13 : decode prog_1_method_51_code 13 = .ok (.isub, 1) := by decide +kernel
theorem d_C_status_14 : decode prog_1_method_51_code 14 = .ok (.bipush 100, 2) := by decide +kernel
theorem d_C_status_16 : decode prog_1_method_51_code 16 = .ok (.imul, 1) := by decide +kernel
theorem d_C_status_17 : decode prog_1_method_51_code 17 = .ok (.invokevirtual 212, 3) := by decide +kernel
theorem d_C_status_20 : decode prog_1_method_51_code 20 = .ok (.ireturn, 1) := by decide +kernel
theorem d_C_status_21 : decode prog_1_method_51_code 21 = .ok (.iload_n 1, 1) := by decide +kernel
theorem d_C_status_22 : decode prog_1_method_51_code 22 = .ok (.bipush 11, 2) := by decide +kernel
theorem d_C_status_24 : decode prog_1_method_51_code 24 = .ok (.bipush 17, 2) := by decide +kernel
theorem d_C_status_26 : decode prog_1_method_51_code 26 = .ok (.invokestatic 84, 3) := by decide +kernel
theorem d_C_status_29 : decode prog_1_method_51_code 29 = .ok (.ifCond .eq 13, 3) := by decide +kernel
theorem d_C_status_32 : decode prog_1_method_51_code 32 = .ok (.aload_n 0, 1) := by decide +kernel
theorem d_C_status_33 : decode prog_1_method_51_code 33 = .ok (.getfield 74, 3) := by decide +kernel
theorem d_C_status_36 : decode prog_1_method_51_code 36 = .ok (.iload_n 1, 1) := by decide +kernel
theorem d_C_status_37 : decode prog_1_method_51_code 37 = .ok (.bipush 10, 2) := by decide +kernel
theorem d_C_status_39 : decode prog_1_method_51_code 39 = .ok (.isub, 1) := by decide +kernel
theorem d_C_status_40 : decode prog_1_method_51_code 40 = .ok (.iaload, 1) := by decide +kernel
theorem d_C_status_41 : decode prog_1_method_51_code 41 = .ok (.ireturn, 1) := by decide +kernel
theorem d_C_status_42 : decode prog_1_method_51_code 42 = .ok (.iload_n 1, 1) := by decide +kernel
theorem d_C_status_43 : decode prog_1_method_51_code 43 = .ok (.tableswitch 158 0 20 #[97, 105, 113, 121, 158, 158, 158, 158, 158, 158, 129, 158, 158, 158, 158, 158, 158, 158, 134, 142, 150], 97) := by decide +kernel
theorem d_C_status_140 : decode prog_1_method_51_code 140 = .ok (.aload_n 0, 1) := by decide +kernel
theorem d_C_status_141 : decode prog_1_method_51_code 141 = .ok (.getfield 12, 3) := by decide +kernel
theorem d_C_status_144 : decode prog_1_method_51_code 144 = .ok (.invokevirtual 124, 3) := by decide +kernel
theorem d_C_status_147 : decode prog_1_method_51_code 147 = .ok (.ireturn, 1) := by decide +kernel
theorem d_C_status_148 : decode prog_1_method_51_code 148 = .ok (.aload_n 0, 1) := by decide +kernel
theorem d_C_status_149 : decode prog_1_method_51_code 149 = .ok (.getfield 19, 3) := by decide +kernel
theorem d_C_status_152 : decode prog_1_method_51_code 152 = .ok (.invokevirtual 92, 3) := by decide +kernel
theorem d_C_status_155 : decode prog_1_method_51_code 155 = .ok (.ireturn, 1) := by decide +kernel
theorem d_C_status_156 : decode prog_1_method_51_code 156 = .ok (.aload_n 0, 1) := by decide +kernel
theorem d_C_status_157 : decode prog_1_method_51_code 157 = .ok (.getfield 28, 3) := by decide +kernel
theorem d_C_status_160 : decode prog_1_method_51_code 160 = .ok (.invokevirtual 100, 3) := by decide +kernel
theorem d_C_status_163 : decode prog_1_method_51_code 163 = .ok (.ireturn, 1) := by decide +kernel
theorem d_C_status_164 : decode prog_1_method_51_code 164 = .ok (.aload_n 0, 1) := by decide +kernel
theorem d_C_status_165 : decode prog_1_method_51_code 165 = .ok (.getfield 37, 3) := by decide +kernel
theorem d_C_status_168 : decode prog_1_method_51_code 168 = .ok (.invokevirtual 245, 3) := by decide +kernel
theorem d_C_status_171 : decode prog_1_method_51_code 171 = .ok (.ireturn, 1) := by decide +kernel
theorem d_C_status_172 : decode prog_1_method_51_code 172 = .ok (.aload_n 0, 1) := by decide +kernel
theorem d_C_status_173 : decode prog_1_method_51_code 173 = .ok (.getfield 81, 3) := by decide +kernel
theorem d_C_status_176 : decode prog_1_method_51_code 176 = .ok (.ireturn, 1) := by decide +kernel
theorem d_C_status_177 : decode prog_1_method_51_code 177 = .ok (.aload_n 0, 1) := by decide +kernel
theorem d_C_status_178 : decode prog_1_method_51_code 178 = .ok (.getfield 28, 3) := by decide +kernel
theorem d_C_status_181 : decode prog_1_method_51_code 181 = .ok (.invokevirtual 136, 3) := by decide +kernel
theorem d_C_status_184 : decode prog_1_method_51_code 184 = .ok (.ireturn, 1) := by decide +kernel
theorem d_C_status_185 : decode prog_1_method_51_code 185 = .ok (.aload_n 0, 1) := by decide +kernel
theorem d_C_status_186 : decode prog_1_method_51_code 186 = .ok (.getfield 37, 3) := by decide +kernel
theorem d_C_status_189 : decode prog_1_method_51_code 189 = .ok (.invokevirtual 305, 3) := by decide +kernel
theorem d_C_status_192 : decode prog_1_method_51_code 192 = .ok (.ireturn, 1) := by decide +kernel
theorem d_C_status_193 : decode prog_1_method_51_code 193 = .ok (.aload_n 0, 1) := by decide +kernel
theorem d_C_status_194 : decode prog_1_method_51_code 194 = .ok (.getfield 37, 3) := by decide +kernel
theorem d_C_status_197 : decode prog_1_method_51_code 197 = .ok (.invokevirtual 348, 3) := by decide +kernel
theorem d_C_status_200 : decode prog_1_method_51_code 200 = .ok (.ireturn, 1) := by decide +kernel
theorem d_C_status_201 : decode prog_1_method_51_code 201 = .ok (.iconst (-1), 1) := by decide +kernel
theorem d_C_status_202 : decode prog_1_method_51_code 202 = .ok (.ireturn, 1) := by decide +kernel
theorem d_C_within_0 : decode prog_1_method_52_code 0 = .ok (.iload_n 1, 1) := by decide +kernel
theorem d_C_within_1 : decode prog_1_method_52_code 1 = .ok (.iload_n 0, 1) := by decide +kernel
theorem d_C_within_2 : decode prog_1_method_52_code 2 = .ok (.if_icmp .gt 12, 3) := by decide +kernel
theorem d_C_within_5 : decode prog_1_method_52_code 5 = .ok (.iload_n 0, 1) := by decide +kernel
theorem d_C_within_6 : decode prog_1_method_52_code 6 = .ok (.iload_n 2, 1) := by decide +kernel
theorem d_C_within_7 : decode prog_1_method_52_code 7 = .ok (.if_icmp .gt 7, 3) := by decide +kernel
theorem d_C_within_10 : decode prog_1_method_52_code 10 = .ok (.iconst 1, 1) := by decide +kernel
theorem d_C_within_11 : decode prog_1_method_52_code 11 = .ok (.goto 4, 3) := by decide +kernel
theorem d_C_within_14 : decode prog_1_method_52_code 14 = .ok (.iconst 0, 1) := by decide +kernel
theorem d_C_within_15 : decode prog_1_method_52_code 15 = .ok (.ireturn, 1) := by decide +kernel
theorem d_C_refuse_0 : decode prog_1_method_53_code 0 = .ok (.iload_n 1, 1) := by decide +kernel
theorem d_C_refuse_1 : decode prog_1_method_53_code 1 = .ok (.ineg, 1) := by decide +kernel
theorem d_C_refuse_2 : decode prog_1_method_53_code 2 = .ok (.iconst 1, 1) := by decide +kernel
theorem d_C_refuse_3 : decode prog_1_method_53_code 3 = .ok (.bipush 7, 2) := by decide +kernel
theorem d_C_refuse_5 : decode prog_1_method_53_code 5 = .ok (.invokestatic 84, 3) := by decide +kernel
theorem d_C_refuse_8 : decode prog_1_method_53_code 8 = .ok (.ifCond .eq 14, 3) := by decide +kernel
theorem d_C_refuse_11 : decode prog_1_method_53_code 11 = .ok (.aload_n 0, 1) := by decide +kernel
theorem d_C_refuse_12 : decode prog_1_method_53_code 12 = .ok (.getfield 74, 3) := by decide +kernel
theorem d_C_refuse_15 : decode prog_1_method_53_code 15 = .ok (.iload_n 1, 1) := by decide +kernel
theorem d_C_refuse_16 : decode prog_1_method_53_code 16 = .ok (.ineg, 1) := by decide +kernel
theorem d_C_refuse_17 : decode prog_1_method_53_code 17 = .ok (.dup2, 1) := by decide +kernel
theorem d_C_refuse_18 : decode prog_1_method_53_code 18 = .ok (.iaload, 1) := by decide +kernel
theorem d_C_refuse_19 : decode prog_1_method_53_code 19 = .ok (.iconst 1, 1) := by decide +kernel
theorem d_C_refuse_20 : decode prog_1_method_53_code 20 = .ok (.iadd, 1) := by decide +kernel
theorem d_C_refuse_21 : decode prog_1_method_53_code 21 = .ok (.iastore, 1) := by decide +kernel
theorem d_C_refuse_22 : decode prog_1_method_53_code 22 = .ok (.iload_n 1, 1) := by decide +kernel
theorem d_C_refuse_23 : decode prog_1_method_53_code 23 = .ok (.ireturn, 1) := by decide +kernel
theorem d_C_thingAt_0 : decode prog_1_method_54_code 0 = .ok (.iload_n 1, 1) := by decide +kernel
theorem d_C_thingAt_1 : decode prog_1_method_54_code 1 = .ok (.iconst 0, 1) := by decide +kernel
theorem d_C_thingAt_2 : decode prog_1_method_54_code 2 = .ok (.aload_n 0, 1) := by decide +kernel
theorem d_C_thingAt_3 : decode prog_1_method_54_code 3 = .ok (.getfield 12, 3) := by decide +kernel
theorem d_C_thingAt_6 : decode prog_1_method_54_code 6 = .ok (.invokevirtual 124, 3) := by decide +kernel
theorem d_C_thingAt_9 : decode prog_1_method_54_code 9 = .ok (.iconst 1, 1) := by decide +kernel
theorem d_C_thingAt_10 : decode prog_1_method_54_code 10 = .ok (.isub, 1) := by decide +kernel
theorem d_C_thingAt_11 : decode prog_1_method_54_code 11 = .ok (.invokestatic 84, 3) := by decide +kernel
theorem d_C_thingAt_14 : decode prog_1_method_54_code 14 = .ok (.ifCond .eq 17, 3) := by decide +kernel
theorem d_C_thingAt_17 : decode prog_1_method_54_code 17 = .ok (.aload_n 0, 1) := by decide +kernel
theorem d_C_thingAt_18 : decode prog_1_method_54_code 18 = .ok (.getfield 12, 3) := by decide +kernel
theorem d_C_thingAt_21 : decode prog_1_method_54_code 21 = .ok (.iload_n 1, 1) := by decide +kernel
theorem d_C_thingAt_22 : decode prog_1_method_54_code 22 = .ok (.invokevirtual 351, 3) := by decide +kernel
theorem d_C_thingAt_25 : decode prog_1_method_54_code 25 = .ok (.checkcast 127, 3) := by decide +kernel
theorem d_C_thingAt_28 : decode prog_1_method_54_code 28 = .ok (.goto 4, 3) := by decide +kernel
theorem d_C_thingAt_31 : decode prog_1_method_54_code 31 = .ok (.aconst_null, 1) := by decide +kernel
theorem d_C_thingAt_32 : decode prog_1_method_54_code 32 = .ok (.areturn, 1) := by decide +kernel
theorem d_C_howManyAt_0 : decode prog_1_method_55_code 0 = .ok (.iconst 0, 1) := by decide +kernel
theorem d_C_howManyAt_1 : decode prog_1_method_55_code 1 = .ok (.istore_n 2, 1) := by decide +kernel
theorem d_C_howManyAt_2 : decode prog_1_method_55_code 2 = .ok (.iconst 0, 1) := by decide +kernel
theorem d_C_howManyAt_3 : decode prog_1_method_55_code 3 = .ok (.istore_n 3, 1) := by decide +kernel
theorem d_C_howManyAt_4 : decode prog_1_method_55_code 4 = .ok (.iload_n 3, 1) := by decide +kernel
theorem d_C_howManyAt_5 : decode prog_1_method_55_code 5 = .ok (.aload_n 0, 1) := by decide +kernel
theorem d_C_howManyAt_6 : decode prog_1_method_55_code 6 = .ok (.getfield 12, 3) := by decide +kernel
theorem d_C_howManyAt_9 : decode prog_1_method_55_code 9 = .ok (.invokevirtual 124, 3) := by decide +kernel
theorem d_C_howManyAt_12 : decode prog_1_method_55_code 12 = .ok (.if_icmp .ge 30, 3) := by decide +kernel
theorem d_C_howManyAt_15 : decode prog_1_method_55_code 15 = .ok (.aload_n 0, 1) := by decide +kernel
theorem d_C_howManyAt_16 : decode prog_1_method_55_code 16 = .ok (.getfield 12, 3) := by decide +kernel
theorem d_C_howManyAt_19 : decode prog_1_method_55_code 19 = .ok (.iload_n 3, 1) := by decide +kernel
theorem d_C_howManyAt_20 : decode prog_1_method_55_code 20 = .ok (.invokevirtual 351, 3) := by decide +kernel
theorem d_C_howManyAt_23 : decode prog_1_method_55_code 23 = .ok (.checkcast 127, 3) := by decide +kernel
theorem d_C_howManyAt_26 : decode prog_1_method_55_code 26 = .ok (.iload_n 1, 1) := by decide +kernel
theorem d_C_howManyAt_27 : decode prog_1_method_55_code 27 = .ok (.invokevirtual 355, 3) := by decide +kernel
theorem d_C_howManyAt_30 : decode prog_1_method_55_code 30 = .ok (.ifCond .eq 6, 3) := by decide +kernel
theorem d_C_howManyAt_33 : decode prog_1_method_55_code 33 = .ok (.iinc 2 1, 3) := by decide +kernel
theorem d_C_howManyAt_36 : decode prog_1_method_55_code 36 = .ok (.iinc 3 1, 3) := by decide +kernel
theorem d_C_howManyAt_39 : decode prog_1_method_55_code 39 = .ok (.goto (-35), 3) := by decide +kernel
theorem d_C_howManyAt_42 : decode prog_1_method_55_code 42 = .ok (.iload_n 2, 1) := by decide +kernel
theorem d_C_howManyAt_43 : decode prog_1_method_55_code 43 = .ok (.ireturn, 1) := by decide +kernel
