theorem d_Mod_meetings_12 : decode b_Mod_meetings 12 = .ok (.iadd, 1) := by decide +kernel
theorem d_Mod_meetings_13 : decode b_Mod_meetings 13 = .ok (.istore_n 3, 1) := by decide +kernel
theorem d_Mod_meetings_14 : decode b_Mod_meetings 14 = .ok (.iload_n 3, 1) := by decide +kernel
theorem d_Mod_meetings_15 : decode b_Mod_meetings 15 = .ok (.bipush 24, 2) := by decide +kernel
theorem d_Mod_meetings_17 : decode b_Mod_meetings 17 = .ok (.if_icmp .ge 44, 3) := by decide +kernel
theorem d_Mod_meetings_20 : decode b_Mod_meetings 20 = .ok (.aload_n 0, 1) := by decide +kernel
theorem d_Mod_meetings_21 : decode b_Mod_meetings 21 = .ok (.getfield 13, 3) := by decide +kernel
theorem d_Mod_meetings_24 : decode b_Mod_meetings 24 = .ok (.iload_n 2, 1) := by decide +kernel
theorem d_Mod_meetings_25 : decode b_Mod_meetings 25 = .ok (.iaload, 1) := by decide +kernel
theorem d_Mod_meetings_26 : decode b_Mod_meetings 26 = .ok (.ifCond .lt 27, 3) := by decide +kernel
theorem d_Mod_meetings_29 : decode b_Mod_meetings 29 = .ok (.aload_n 0, 1) := by decide +kernel
theorem d_Mod_meetings_30 : decode b_Mod_meetings 30 = .ok (.getfield 13, 3) := by decide +kernel
theorem d_Mod_meetings_33 : decode b_Mod_meetings 33 = .ok (.iload_n 3, 1) := by decide +kernel
theorem d_Mod_meetings_34 : decode b_Mod_meetings 34 = .ok (.iaload, 1) := by decide +kernel
theorem d_Mod_meetings_35 : decode b_Mod_meetings 35 = .ok (.ifCond .lt 18, 3) := by decide +kernel
theorem d_Mod_meetings_38 : decode b_Mod_meetings 38 = .ok (.aload_n 0, 1) := by decide +kernel
theorem d_Mod_meetings_39 : decode b_Mod_meetings 39 = .ok (.iload_n 2, 1) := by decide +kernel
theorem d_Mod_meetings_40 : decode b_Mod_meetings 40 = .ok (.iload_n 3, 1) := by decide +kernel
theorem d_Mod_meetings_41 : decode b_Mod_meetings 41 = .ok (.invokevirtual 194, 3) := by decide +kernel
theorem d_Mod_meetings_44 : decode b_Mod_meetings 44 = .ok (.ifCond .eq 9, 3) := by decide +kernel
theorem d_Mod_meetings_47 : decode b_Mod_meetings 47 = .ok (.iload_n 1, 1) := by decide +kernel
theorem d_Mod_meetings_48 : decode b_Mod_meetings 48 = .ok (.iconst 1, 1) := by decide +kernel
theorem d_Mod_meetings_49 : decode b_Mod_meetings 49 = .ok (.iadd, 1) := by decide +kernel
theorem d_Mod_meetings_50 : decode b_Mod_meetings 50 = .ok (.goto 4, 3) := by decide +kernel
theorem d_Mod_meetings_53 : decode b_Mod_meetings 53 = .ok (.iload_n 1, 1) := by decide +kernel
theorem d_Mod_meetings_54 : decode b_Mod_meetings 54 = .ok (.istore_n 1, 1) := by decide +kernel
theorem d_Mod_meetings_55 : decode b_Mod_meetings 55 = .ok (.iinc 3 1, 3) := by decide +kernel
theorem d_Mod_meetings_58 : decode b_Mod_meetings 58 = .ok (.goto (-44), 3) := by decide +kernel
theorem d_Mod_meetings_61 : decode b_Mod_meetings 61 = .ok (.iinc 2 1, 3) := by decide +kernel
theorem d_Mod_meetings_64 : decode b_Mod_meetings 64 = .ok (.goto (-60), 3) := by decide +kernel
theorem d_Mod_meetings_67 : decode b_Mod_meetings 67 = .ok (.iload_n 1, 1) := by decide +kernel
theorem d_Mod_meetings_68 : decode b_Mod_meetings 68 = .ok (.ireturn, 1) := by decide +kernel
theorem d_Mod_meets_0 : decode b_Mod_meets 0 = .ok (.aload_n 0, 1) := by decide +kernel
theorem d_Mod_meets_1 : decode b_Mod_meets 1 = .ok (.aload_n 0, 1) := by decide +kernel
theorem d_Mod_meets_2 : decode b_Mod_meets 2 = .ok (.iload_n 1, 1) := by decide +kernel
theorem d_Mod_meets_3 : decode b_Mod_meets 3 = .ok (.invokevirtual 94, 3) := by decide +kernel
theorem d_Mod_meets_6 : decode b_Mod_meets 6 = .ok (.ifCond .eq 11, 3) := by decide +kernel
theorem d_Mod_meets_9 : decode b_Mod_meets 9 = .ok (.aload_n 0, 1) := by decide +kernel
theorem d_Mod_meets_10 : decode b_Mod_meets 10 = .ok (.iload_n 2, 1) := by decide +kernel
theorem d_Mod_meets_11 : decode b_Mod_meets 11 = .ok (.invokevirtual 94, 3) := by decide +kernel
theorem d_Mod_meets_14 : decode b_Mod_meets 14 = .ok (.ifCond .ne 7, 3) := by decide +kernel
theorem d_Mod_meets_17 : decode b_Mod_meets 17 = .ok (.iconst 1, 1) := by decide +kernel
theorem d_Mod_meets_18 : decode b_Mod_meets 18 = .ok (.goto 4, 3) := by decide +kernel
theorem d_Mod_meets_21 : decode b_Mod_meets 21 = .ok (.iconst 0, 1) := by decide +kernel
theorem d_Mod_meets_22 : decode b_Mod_meets 22 = .ok (.iload_n 1, 1) := by decide +kernel
theorem d_Mod_meets_23 : decode b_Mod_meets 23 = .ok (.iload_n 2, 1) := by decide +kernel
theorem d_Mod_meets_24 : decode b_Mod_meets 24 = .ok (.if_icmp .ne 7, 3) := by decide +kernel
theorem d_Mod_meets_27 : decode b_Mod_meets 27 = .ok (.iconst 1, 1) := by decide +kernel
theorem d_Mod_meets_28 : decode b_Mod_meets 28 = .ok (.goto 4, 3) := by decide +kernel
theorem d_Mod_meets_31 : decode b_Mod_meets 31 = .ok (.iconst 0, 1) := by decide +kernel
theorem d_Mod_meets_32 : decode b_Mod_meets 32 = .ok (.iconst 0, 1) := by decide +kernel
theorem d_Mod_meets_33 : decode b_Mod_meets 33 = .ok (.invokevirtual 79, 3) := by decide +kernel
theorem d_Mod_meets_36 : decode b_Mod_meets 36 = .ok (.ifCond .ne 16, 3) := by decide +kernel
theorem d_Mod_meets_39 : decode b_Mod_meets 39 = .ok (.aload_n 0, 1) := by decide +kernel
theorem d_Mod_meets_40 : decode b_Mod_meets 40 = .ok (.iload_n 1, 1) := by decide +kernel
theorem d_Mod_meets_41 : decode b_Mod_meets 41 = .ok (.iload_n 2, 1) := by decide +kernel
theorem d_Mod_meets_42 : decode b_Mod_meets 42 = .ok (.invokevirtual 194, 3) := by decide +kernel
theorem d_Mod_meets_45 : decode b_Mod_meets 45 = .ok (.ifCond .eq 7, 3) := by decide +kernel
theorem d_Mod_meets_48 : decode b_Mod_meets 48 = .ok (.iconst 1, 1) := by decide +kernel
theorem d_Mod_meets_49 : decode b_Mod_meets 49 = .ok (.goto 4, 3) := by decide +kernel
theorem d_Mod_meets_52 : decode b_Mod_meets 52 = .ok (.iconst 0, 1) := by decide +kernel
theorem d_Mod_meets_53 : decode b_Mod_meets 53 = .ok (.ireturn, 1) := by decide +kernel
theorem d_Mod_node_0 : decode b_Mod_node 0 = .ok (.aload_n 0, 1) := by decide +kernel
theorem d_Mod_node_1 : decode b_Mod_node 1 = .ok (.iload_n 1, 1) := by decide +kernel
theorem d_Mod_node_2 : decode b_Mod_node 2 = .ok (.invokestatic 72, 3) := by decide +kernel
theorem d_Mod_node_5 : decode b_Mod_node 5 = .ok (.ifCond .ne 7, 3) := by decide +kernel
theorem d_Mod_node_8 : decode b_Mod_node 8 = .ok (.iconst 1, 1) := by decide +kernel
theorem d_Mod_node_9 : decode b_Mod_node 9 = .ok (.goto 4, 3) := by decide +kernel
theorem d_Mod_node_12 : decode b_Mod_node 12 = .ok (.iconst 0, 1) := by decide +kernel
theorem d_Mod_node_13 : decode b_Mod_node 13 = .ok (.aload_n 0, 1) := by decide +kernel
theorem d_Mod_node_14 : decode b_Mod_node 14 = .ok (.iload_n 1, 1) := by decide +kernel
theorem d_Mod_node_15 : decode b_Mod_node 15 = .ok (.invokevirtual 76, 3) := by decide +kernel
theorem d_Mod_node_18 : decode b_Mod_node 18 = .ok (.iconst 0, 1) := by decide +kernel
theorem d_Mod_node_19 : decode b_Mod_node 19 = .ok (.invokevirtual 79, 3) := by decide +kernel
theorem d_Mod_node_22 : decode b_Mod_node 22 = .ok (.ifCond .eq 5, 3) := by decide +kernel
theorem d_Mod_node_25 : decode b_Mod_node 25 = .ok (.iconst 0, 1) := by decide +kernel
theorem d_Mod_node_26 : decode b_Mod_node 26 = .ok (.ireturn, 1) := by decide +kernel
theorem d_Mod_node_27 : decode b_Mod_node 27 = .ok (.aload_n 0, 1) := by decide +kernel
theorem d_Mod_node_28 : decode b_Mod_node 28 = .ok (.getfield 7, 3) := by decide +kernel
theorem d_Mod_node_31 : decode b_Mod_node 31 = .ok (.iload_n 1, 1) := by decide +kernel
theorem d_Mod_node_32 : decode b_Mod_node 32 = .ok (.iconst 1, 1) := by decide +kernel
theorem d_Mod_node_33 : decode b_Mod_node 33 = .ok (.bastore, 1) := by decide +kernel
theorem d_Mod_node_34 : decode b_Mod_node 34 = .ok (.aload_n 0, 1) := by decide +kernel
theorem d_Mod_node_35 : decode b_Mod_node 35 = .ok (.invokevirtual 83, 3) := by decide +kernel
theorem d_Mod_node_38 : decode b_Mod_node 38 = .ok (.ireturn, 1) := by decide +kernel
theorem d_Mod_nodeBits_0 : decode b_Mod_nodeBits 0 = .ok (.iconst 0, 1) := by decide +kernel
theorem d_Mod_nodeBits_1 : decode b_Mod_nodeBits 1 = .ok (.istore_n 1, 1) := by decide +kernel
theorem d_Mod_nodeBits_2 : decode b_Mod_nodeBits 2 = .ok (.iconst 0, 1) := by decide +kernel
theorem d_Mod_nodeBits_3 : decode b_Mod_nodeBits 3 = .ok (.istore_n 2, 1) := by decide +kernel
theorem d_Mod_nodeBits_4 : decode b_Mod_nodeBits 4 = .ok (.iload_n 2, 1) := by decide +kernel
theorem d_Mod_nodeBits_5 : decode b_Mod_nodeBits 5 = .ok (.bipush 10, 2) := by decide +kernel
theorem d_Mod_nodeBits_7 : decode b_Mod_nodeBits 7 = .ok (.if_icmp .ge 28, 3) := by decide +kernel
theorem d_Mod_nodeBits_10 : decode b_Mod_nodeBits 10 = .ok (.aload_n 0, 1) := by decide +kernel
theorem d_Mod_nodeBits_11 : decode b_Mod_nodeBits 11 = .ok (.getfield 7, 3) := by decide +kernel
theorem d_Mod_nodeBits_14 : decode b_Mod_nodeBits 14 = .ok (.iload_n 2, 1) := by decide +kernel
theorem d_Mod_nodeBits_15 : decode b_Mod_nodeBits 15 = .ok (.baload, 1) := by decide +kernel
theorem d_Mod_nodeBits_16 : decode b_Mod_nodeBits 16 = .ok (.ifCond .eq 11, 3) := by decide +kernel
theorem d_Mod_nodeBits_19 : decode b_Mod_nodeBits 19 = .ok (.iload_n 1, 1) := by decide +kernel
theorem d_Mod_nodeBits_20 : decode b_Mod_nodeBits 20 = .ok (.iconst 1, 1) := by decide +kernel
theorem d_Mod_nodeBits_21 : decode b_Mod_nodeBits 21 = .ok (.iload_n 2, 1) := by decide +kernel
theorem d_Mod_nodeBits_22 : decode b_Mod_nodeBits 22 = .ok (.ishl, 1) := by decide +kernel
theorem d_Mod_nodeBits_23 : decode b_Mod_nodeBits 23 = .ok (.ior, 1) := by decide +kernel
theorem d_Mod_nodeBits_24 : decode b_Mod_nodeBits 24 = .ok (.goto 4, 3) := by decide +kernel
theorem d_Mod_nodeBits_27 : decode b_Mod_nodeBits 27 = .ok (.iload_n 1, 1) := by decide +kernel
theorem d_Mod_nodeBits_28 : decode b_Mod_nodeBits 28 = .ok (.istore_n 1, 1) := by decide +kernel
theorem d_Mod_nodeBits_29 : decode b_Mod_nodeBits 29 = .ok (.iinc 2 1, 3) := by decide +kernel
theorem d_Mod_nodeBits_32 : decode b_Mod_nodeBits 32 = .ok (.goto (-28), 3) := by decide +kernel
theorem d_Mod_nodeBits_35 : decode b_Mod_nodeBits 35 = .ok (.iload_n 1, 1) := by decide +kernel
theorem d_Mod_nodeBits_36 : decode b_Mod_nodeBits 36 = .ok (.ireturn, 1) := by decide +kernel
theorem d_Mod_nodes_0 : decode b_Mod_nodes 0 = .ok (.aload_n 0, 1) := by decide +kernel
theorem d_Mod_nodes_1 : decode b_Mod_nodes 1 = .ok (.iconst 0, 1) := by decide +kernel
theorem d_Mod_nodes_2 : decode b_Mod_nodes 2 = .ok (.putfield 68, 3) := by decide +kernel
theorem d_Mod_nodes_5 : decode b_Mod_nodes 5 = .ok (.aload_n 0, 1) := by decide +kernel
theorem d_Mod_nodes_6 : decode b_Mod_nodes 6 = .ok (.invokevirtual 100, 3) := by decide +kernel
theorem d_Mod_nodes_9 : decode b_Mod_nodes 9 = .ok (.ireturn, 1) := by decide +kernel
theorem d_Mod_oppositeCorners_0 : decode b_Mod_oppositeCorners 0 = .ok (.iconst 0, 1) := by decide +kernel
theorem d_Mod_oppositeCorners_1 : decode b_Mod_oppositeCorners 1 = .ok (.istore_n 2, 1) := by decide +kernel
theorem d_Mod_oppositeCorners_2 : decode b_Mod_oppositeCorners 2 = .ok (.aload_n 0, 1) := by decide +kernel
theorem d_Mod_oppositeCorners_3 : decode b_Mod_oppositeCorners 3 = .ok (.iload_n 1, 1) := by decide +kernel
theorem d_Mod_oppositeCorners_4 : decode b_Mod_oppositeCorners 4 = .ok (.iload_n 2, 1) := by decide +kernel
theorem d_Mod_oppositeCorners_5 : decode b_Mod_oppositeCorners 5 = .ok (.invokevirtual 154, 3) := by decide +kernel
theorem d_Mod_oppositeCorners_8 : decode b_Mod_oppositeCorners 8 = .ok (.iconst 3, 1) := by decide +kernel
theorem d_Mod_oppositeCorners_9 : decode b_Mod_oppositeCorners 9 = .ok (.if_icmp .ge 9, 3) := by decide +kernel
theorem d_Mod_oppositeCorners_12 : decode b_Mod_oppositeCorners 12 = .ok (.iinc 2 1, 3) := by decide +kernel
theorem d_Mod_oppositeCorners_15 : decode b_Mod_oppositeCorners 15 = .ok (.goto (-13), 3) := by decide +kernel
theorem d_Mod_oppositeCorners_18 : decode b_Mod_oppositeCorners 18 = .ok (.iconst 0, 1) := by decide +kernel
theorem d_Mod_oppositeCorners_19 : decode b_Mod_oppositeCorners 19 = .ok (.istore_n 3, 1) := by decide +kernel
theorem d_Mod_oppositeCorners_20 : decode b_Mod_oppositeCorners 20 = .ok (.iconst 0, 1) := by decide +kernel
theorem d_Mod_oppositeCorners_21 : decode b_Mod_oppositeCorners 21 = .ok (.istore 4, 2) := by decide +kernel
theorem d_Mod_oppositeCorners_23 : decode b_Mod_oppositeCorners 23 = .ok (.iload 4, 2) := by decide +kernel
theorem d_Mod_oppositeCorners_25 : decode b_Mod_oppositeCorners 25 = .ok (.bipush 24, 2) := by decide +kernel
theorem d_Mod_oppositeCorners_27 : decode b_Mod_oppositeCorners 27 = .ok (.if_icmp .ge 54, 3) := by decide +kernel
theorem d_Mod_oppositeCorners_30 : decode b_Mod_oppositeCorners 30 = .ok (.iload_n 1, 1) := by decide +kernel
theorem d_Mod_oppositeCorners_31 : decode b_Mod_oppositeCorners 31 = .ok (.iload 4, 2) := by decide +kernel
theorem d_Mod_oppositeCorners_33 : decode b_Mod_oppositeCorners 33 = .ok (.ishr, 1) := by decide +kernel
theorem d_Mod_oppositeCorners_34 : decode b_Mod_oppositeCorners 34 = .ok (.iconst 1, 1) := by decide +kernel
theorem d_Mod_oppositeCorners_35 : decode b_Mod_oppositeCorners 35 = .ok (.iand, 1) := by decide +kernel
theorem d_Mod_oppositeCorners_36 : decode b_Mod_oppositeCorners 36 = .ok (.iconst 1, 1) := by decide +kernel
theorem d_Mod_oppositeCorners_37 : decode b_Mod_oppositeCorners 37 = .ok (.if_icmp .ne 38, 3) := by decide +kernel
theorem d_Mod_oppositeCorners_40 : decode b_Mod_oppositeCorners 40 = .ok (.aload_n 0, 1) := by decide +kernel
theorem d_Mod_oppositeCorners_41 : decode b_Mod_oppositeCorners 41 = .ok (.getfield 13, 3) := by decide +kernel
theorem d_Mod_oppositeCorners_44 : decode b_Mod_oppositeCorners 44 = .ok (.iload 4, 2) := by decide +kernel
theorem d_Mod_oppositeCorners_46 : decode b_Mod_oppositeCorners 46 = .ok (.iaload, 1) := by decide +kernel
theorem d_Mod_oppositeCorners_47 : decode b_Mod_oppositeCorners 47 = .ok (.iload_n 2, 1) := by decide +kernel
theorem d_Mod_oppositeCorners_48 : decode b_Mod_oppositeCorners 48 = .ok (.if_icmp .eq 14, 3) := by decide +kernel
theorem d_Mod_oppositeCorners_51 : decode b_Mod_oppositeCorners 51 = .ok (.aload_n 0, 1) := by decide +kernel
theorem d_Mod_oppositeCorners_52 : decode b_Mod_oppositeCorners 52 = .ok (.getfield 17, 3) := by decide +kernel
theorem d_Mod_oppositeCorners_55 : decode b_Mod_oppositeCorners 55 = .ok (.iload 4, 2) := by decide +kernel
theorem d_Mod_oppositeCorners_57 : decode b_Mod_oppositeCorners 57 = .ok (.iaload, 1) := by decide +kernel
theorem d_Mod_oppositeCorners_58 : decode b_Mod_oppositeCorners 58 = .ok (.iload_n 2, 1) := by decide +kernel
theorem d_Mod_oppositeCorners_59 : decode b_Mod_oppositeCorners 59 = .ok (.if_icmp .ne 16, 3) := by decide +kernel
theorem d_Mod_oppositeCorners_62 : decode b_Mod_oppositeCorners 62 = .ok (.iload_n 3, 1) := by decide +kernel
theorem d_Mod_oppositeCorners_63 : decode b_Mod_oppositeCorners 63 = .ok (.iconst 1, 1) := by decide +kernel
theorem d_Mod_oppositeCorners_64 : decode b_Mod_oppositeCorners 64 = .ok (.aload_n 0, 1) := by decide +kernel
theorem d_Mod_oppositeCorners_65 : decode b_Mod_oppositeCorners 65 = .ok (.iload_n 1, 1) := by decide +kernel
theorem d_Mod_oppositeCorners_66 : decode b_Mod_oppositeCorners 66 = .ok (.iload_n 2, 1) := by decide +kernel
theorem d_Mod_oppositeCorners_67 : decode b_Mod_oppositeCorners 67 = .ok (.iload 4, 2) := by decide +kernel
theorem d_Mod_oppositeCorners_69 : decode b_Mod_oppositeCorners 69 = .ok (.invokevirtual 163, 3) := by decide +kernel
theorem d_Mod_oppositeCorners_72 : decode b_Mod_oppositeCorners 72 = .ok (.ishl, 1) := by decide +kernel
theorem d_Mod_oppositeCorners_73 : decode b_Mod_oppositeCorners 73 = .ok (.ior, 1) := by decide +kernel
theorem d_Mod_oppositeCorners_74 : decode b_Mod_oppositeCorners 74 = .ok (.istore_n 3, 1) := by decide +kernel
theorem d_Mod_oppositeCorners_75 : decode b_Mod_oppositeCorners 75 = .ok (.iinc 4 1, 3) := by decide +kernel
theorem d_Mod_oppositeCorners_78 : decode b_Mod_oppositeCorners 78 = .ok (.goto (-55), 3) := by decide +kernel
theorem d_Mod_oppositeCorners_81 : decode b_Mod_oppositeCorners 81 = .ok (.iload_n 3, 1) := by decide +kernel
theorem d_Mod_oppositeCorners_82 : decode b_Mod_oppositeCorners 82 = .ok (.ireturn, 1) := by decide +kernel
theorem d_Mod_pattern_0 : decode b_Mod_pattern 0 = .ok (.aload_n 0, 1) := by decide +kernel
theorem d_Mod_pattern_1 : decode b_Mod_pattern 1 = .ok (.iconst 0, 1) := by decide +kernel
theorem d_Mod_pattern_2 : decode b_Mod_pattern 2 = .ok (.putfield 68, 3) := by decide +kernel
theorem d_Mod_pattern_5 : decode b_Mod_pattern 5 = .ok (.aload_n 0, 1) := by decide +kernel
theorem d_Mod_pattern_6 : decode b_Mod_pattern 6 = .ok (.invokevirtual 157, 3) := by decide +kernel
theorem d_Mod_pattern_9 : decode b_Mod_pattern 9 = .ok (.ireturn, 1) := by decide +kernel
theorem d_Mod_patternNow_0 : decode b_Mod_patternNow 0 = .ok (.aload_n 0, 1) := by decide +kernel
theorem d_Mod_patternNow_1 : decode b_Mod_patternNow 1 = .ok (.invokevirtual 103, 3) := by decide +kernel
theorem d_Mod_patternNow_4 : decode b_Mod_patternNow 4 = .ok (.istore_n 1, 1) := by decide +kernel
theorem d_Mod_patternNow_5 : decode b_Mod_patternNow 5 = .ok (.aload_n 0, 1) := by decide +kernel
theorem d_Mod_patternNow_6 : decode b_Mod_patternNow 6 = .ok (.iload_n 1, 1) := by decide +kernel
theorem d_Mod_patternNow_7 : decode b_Mod_patternNow 7 = .ok (.invokevirtual 151, 3) := by decide +kernel
theorem d_Mod_patternNow_10 : decode b_Mod_patternNow 10 = .ok (.ifCond .eq 5, 3) := by decide +kernel
theorem d_Mod_patternNow_13 : decode b_Mod_patternNow 13 = .ok (.iconst 0, 1) := by decide +kernel
theorem d_Mod_patternNow_14 : decode b_Mod_patternNow 14 = .ok (.ireturn, 1) := by decide +kernel
theorem d_Mod_patternNow_15 : decode b_Mod_patternNow 15 = .ok (.iconst 0, 1) := by decide +kernel
theorem d_Mod_patternNow_16 : decode b_Mod_patternNow 16 = .ok (.istore_n 2, 1) := by decide +kernel
theorem d_Mod_patternNow_17 : decode b_Mod_patternNow 17 = .ok (.iload_n 2, 1) := by decide +kernel
theorem d_Mod_patternNow_18 : decode b_Mod_patternNow 18 = .ok (.bipush 24, 2) := by decide +kernel
theorem d_Mod_patternNow_20 : decode b_Mod_patternNow 20 = .ok (.if_icmp .ge 40, 3) := by decide +kernel
theorem d_Mod_patternNow_23 : decode b_Mod_patternNow 23 = .ok (.iload_n 1, 1) := by decide +kernel
theorem d_Mod_patternNow_24 : decode b_Mod_patternNow 24 = .ok (.iload_n 2, 1) := by decide +kernel
theorem d_Mod_patternNow_25 : decode b_Mod_patternNow 25 = .ok (.ishr, 1) := by decide +kernel
theorem d_Mod_patternNow_26 : decode b_Mod_patternNow 26 = .ok (.iconst 1, 1) := by decide +kernel
theorem d_Mod_patternNow_27 : decode b_Mod_patternNow 27 = .ok (.iand, 1) := by decide +kernel
theorem d_Mod_patternNow_28 : decode b_Mod_patternNow 28 = .ok (.iconst 1, 1) := by decide +kernel
theorem d_Mod_patternNow_29 : decode b_Mod_patternNow 29 = .ok (.if_icmp .ne 25, 3) := by decide +kernel
theorem d_Mod_patternNow_32 : decode b_Mod_patternNow 32 = .ok (.aload_n 0, 1) := by decide +kernel
theorem d_Mod_patternNow_33 : decode b_Mod_patternNow 33 = .ok (.iload_n 1, 1) := by decide +kernel
theorem d_Mod_patternNow_34 : decode b_Mod_patternNow 34 = .ok (.iconst 1, 1) := by decide +kernel
theorem d_Mod_patternNow_35 : decode b_Mod_patternNow 35 = .ok (.iload_n 2, 1) := by decide +kernel
theorem d_Mod_patternNow_36 : decode b_Mod_patternNow 36 = .ok (.ishl, 1) := by decide +kernel
theorem d_Mod_patternNow_37 : decode b_Mod_patternNow 37 = .ok (.iconst (-1), 1) := by decide +kernel
theorem d_Mod_patternNow_38 : decode b_Mod_patternNow 38 = .ok (.ixor, 1) := by decide +kernel
theorem d_Mod_patternNow_39 : decode b_Mod_patternNow 39 = .ok (.iand, 1) := by decide +kernel
theorem d_Mod_patternNow_40 : decode b_Mod_patternNow 40 = .ok (.invokevirtual 151, 3) := by decide +kernel
theorem d_Mod_patternNow_43 : decode b_Mod_patternNow 43 = .ok (.ifCond .ne 11, 3) := by decide +kernel
theorem d_Mod_patternNow_46 : decode b_Mod_patternNow 46 = .ok (.iload_n 1, 1) := by decide +kernel
theorem d_Mod_patternNow_47 : decode b_Mod_patternNow 47 = .ok (.iconst 1, 1) := by decide +kernel
theorem d_Mod_patternNow_48 : decode b_Mod_patternNow 48 = .ok (.iload_n 2, 1) := by decide +kernel
theorem d_Mod_patternNow_49 : decode b_Mod_patternNow 49 = .ok (.ishl, 1) := by decide +kernel
theorem d_Mod_patternNow_50 : decode b_Mod_patternNow 50 = .ok (.iconst (-1), 1) := by decide +kernel
theorem d_Mod_patternNow_51 : decode b_Mod_patternNow 51 = .ok (.ixor, 1) := by decide +kernel
theorem d_Mod_patternNow_52 : decode b_Mod_patternNow 52 = .ok (.iand, 1) := by decide +kernel
theorem d_Mod_patternNow_53 : decode b_Mod_patternNow 53 = .ok (.istore_n 1, 1) := by decide +kernel
theorem d_Mod_patternNow_54 : decode b_Mod_patternNow 54 = .ok (.iinc 2 1, 3) := by decide +kernel
theorem d_Mod_patternNow_57 : decode b_Mod_patternNow 57 = .ok (.goto (-40), 3) := by decide +kernel
theorem d_Mod_patternNow_60 : decode b_Mod_patternNow 60 = .ok (.iload_n 1, 1) := by decide +kernel
theorem d_Mod_patternNow_61 : decode b_Mod_patternNow 61 = .ok (.ireturn, 1) := by decide +kernel
theorem d_Mod_pieces_0 : decode b_Mod_pieces 0 = .ok (.aload_n 0, 1) := by decide +kernel
theorem d_Mod_pieces_1 : decode b_Mod_pieces 1 = .ok (.iconst 0, 1) := by decide +kernel
theorem d_Mod_pieces_2 : decode b_Mod_pieces 2 = .ok (.putfield 68, 3) := by decide +kernel
theorem d_Mod_pieces_5 : decode b_Mod_pieces 5 = .ok (.aload_n 0, 1) := by decide +kernel
theorem d_Mod_pieces_6 : decode b_Mod_pieces 6 = .ok (.iconst (-1), 1) := by decide +kernel
theorem d_Mod_pieces_7 : decode b_Mod_pieces 7 = .ok (.iconst (-1), 1) := by decide +kernel
theorem d_Mod_pieces_8 : decode b_Mod_pieces 8 = .ok (.invokevirtual 170, 3) := by decide +kernel
theorem d_Mod_pieces_11 : decode b_Mod_pieces 11 = .ok (.ireturn, 1) := by decide +kernel
theorem d_Mod_piecesWithout_0 : decode b_Mod_piecesWithout 0 = .ok (.iconst 0, 1) := by decide +kernel
theorem d_Mod_piecesWithout_1 : decode b_Mod_piecesWithout 1 = .ok (.istore_n 3, 1) := by decide +kernel
theorem d_Mod_piecesWithout_2 : decode b_Mod_piecesWithout 2 = .ok (.iconst 0, 1) := by decide +kernel
theorem d_Mod_piecesWithout_3 : decode b_Mod_piecesWithout 3 = .ok (.istore 4, 2) := by decide +kernel
theorem d_Mod_piecesWithout_5 : decode b_Mod_piecesWithout 5 = .ok (.iload 4, 2) := by decide +kernel
theorem d_Mod_piecesWithout_7 : decode b_Mod_piecesWithout 7 = .ok (.bipush 10, 2) := by decide +kernel
theorem d_Mod_piecesWithout_9 : decode b_Mod_piecesWithout 9 = .ok (.if_icmp .ge 42, 3) := by decide +kernel
theorem d_Mod_piecesWithout_12 : decode b_Mod_piecesWithout 12 = .ok (.aload_n 0, 1) := by decide +kernel
theorem d_Mod_piecesWithout_13 : decode b_Mod_piecesWithout 13 = .ok (.getfield 59, 3) := by decide +kernel
theorem d_Mod_piecesWithout_16 : decode b_Mod_piecesWithout 16 = .ok (.iload 4, 2) := by decide +kernel
theorem d_Mod_piecesWithout_18 : decode b_Mod_piecesWithout 18 = .ok (.iload 4, 2) := by decide +kernel
theorem d_Mod_piecesWithout_20 : decode b_Mod_piecesWithout 20 = .ok (.iastore, 1) := by decide +kernel
theorem d_Mod_piecesWithout_21 : decode b_Mod_piecesWithout 21 = .ok (.aload_n 0, 1) := by decide +kernel
theorem d_Mod_piecesWithout_22 : decode b_Mod_piecesWithout 22 = .ok (.getfield 7, 3) := by decide +kernel
theorem d_Mod_piecesWithout_25 : decode b_Mod_piecesWithout 25 = .ok (.iload 4, 2) := by decide +kernel
theorem d_Mod_piecesWithout_27 : decode b_Mod_piecesWithout 27 = .ok (.baload, 1) := by decide +kernel
theorem d_Mod_piecesWithout_28 : decode b_Mod_piecesWithout 28 = .ok (.ifCond .eq 15, 3) := by decide +kernel
theorem d_Mod_piecesWithout_31 : decode b_Mod_piecesWithout 31 = .ok (.iload 4, 2) := by decide +kernel
theorem d_Mod_piecesWithout_33 : decode b_Mod_piecesWithout 33 = .ok (.iload_n 1, 1) := by decide +kernel
theorem d_Mod_piecesWithout_34 : decode b_Mod_piecesWithout 34 = .ok (.if_icmp .eq 9, 3) := by decide +kernel
theorem d_Mod_piecesWithout_37 : decode b_Mod_piecesWithout 37 = .ok (.iload_n 3, 1) := by decide +kernel
theorem d_Mod_piecesWithout_38 : decode b_Mod_piecesWithout 38 = .ok (.iconst 1, 1) := by decide +kernel
theorem d_Mod_piecesWithout_39 : decode b_Mod_piecesWithout 39 = .ok (.iadd, 1) := by decide +kernel
theorem d_Mod_piecesWithout_40 : decode b_Mod_piecesWithout 40 = .ok (.goto 4, 3) := by decide +kernel
theorem d_Mod_piecesWithout_43 : decode b_Mod_piecesWithout 43 = .ok (.iload_n 3, 1) := by decide +kernel
theorem d_Mod_piecesWithout_44 : decode b_Mod_piecesWithout 44 = .ok (.istore_n 3, 1) := by decide +kernel
theorem d_Mod_piecesWithout_45 : decode b_Mod_piecesWithout 45 = .ok (.iinc 4 1, 3) := by decide +kernel
theorem d_Mod_piecesWithout_48 : decode b_Mod_piecesWithout 48 = .ok (.goto (-43), 3) := by decide +kernel
