theorem d_Web_clear_0 : decode b_Web_clear 0 = .ok (.aload_n 0, 1) := by decide +kernel
theorem d_Web_clear_1 : decode b_Web_clear 1 = .ok (.getfield 9, 3) := by decide +kernel
theorem d_Web_clear_4 : decode b_Web_clear 4 = .ok (.iconst 0, 1) := by decide +kernel
theorem d_Web_clear_5 : decode b_Web_clear 5 = .ok (.invokestatic 15, 3) := by decide +kernel
theorem d_Web_clear_8 : decode b_Web_clear 8 = .ok (.return_, 1) := by decide +kernel
theorem d_Web_degree_0 : decode b_Web_degree 0 = .ok (.aload_n 0, 1) := by decide +kernel
theorem d_Web_degree_1 : decode b_Web_degree 1 = .ok (.getfield 9, 3) := by decide +kernel
theorem d_Web_degree_4 : decode b_Web_degree 4 = .ok (.iload_n 1, 1) := by decide +kernel
theorem d_Web_degree_5 : decode b_Web_degree 5 = .ok (.iaload, 1) := by decide +kernel
theorem d_Web_degree_6 : decode b_Web_degree 6 = .ok (.invokestatic 21, 3) := by decide +kernel
theorem d_Web_degree_9 : decode b_Web_degree 9 = .ok (.ireturn, 1) := by decide +kernel
theorem d_Web_join_0 : decode b_Web_join 0 = .ok (.aload_n 0, 1) := by decide +kernel
theorem d_Web_join_1 : decode b_Web_join 1 = .ok (.getfield 9, 3) := by decide +kernel
theorem d_Web_join_4 : decode b_Web_join 4 = .ok (.iload_n 1, 1) := by decide +kernel
theorem d_Web_join_5 : decode b_Web_join 5 = .ok (.dup2, 1) := by decide +kernel
theorem d_Web_join_6 : decode b_Web_join 6 = .ok (.iaload, 1) := by decide +kernel
theorem d_Web_join_7 : decode b_Web_join 7 = .ok (.iconst 1, 1) := by decide +kernel
theorem d_Web_join_8 : decode b_Web_join 8 = .ok (.iload_n 2, 1) := by decide +kernel
theorem d_Web_join_9 : decode b_Web_join 9 = .ok (.ishl, 1) := by decide +kernel
theorem d_Web_join_10 : decode b_Web_join 10 = .ok (.ior, 1) := by decide +kernel
theorem d_Web_join_11 : decode b_Web_join 11 = .ok (.iastore, 1) := by decide +kernel
theorem d_Web_join_12 : decode b_Web_join 12 = .ok (.aload_n 0, 1) := by decide +kernel
theorem d_Web_join_13 : decode b_Web_join 13 = .ok (.getfield 9, 3) := by decide +kernel
theorem d_Web_join_16 : decode b_Web_join 16 = .ok (.iload_n 2, 1) := by decide +kernel
theorem d_Web_join_17 : decode b_Web_join 17 = .ok (.dup2, 1) := by decide +kernel
theorem d_Web_join_18 : decode b_Web_join 18 = .ok (.iaload, 1) := by decide +kernel
theorem d_Web_join_19 : decode b_Web_join 19 = .ok (.iconst 1, 1) := by decide +kernel
theorem d_Web_join_20 : decode b_Web_join 20 = .ok (.iload_n 1, 1) := by decide +kernel
theorem d_Web_join_21 : decode b_Web_join 21 = .ok (.ishl, 1) := by decide +kernel
theorem d_Web_join_22 : decode b_Web_join 22 = .ok (.ior, 1) := by decide +kernel
theorem d_Web_join_23 : decode b_Web_join 23 = .ok (.iastore, 1) := by decide +kernel
theorem d_Web_join_24 : decode b_Web_join 24 = .ok (.return_, 1) := by decide +kernel
theorem d_Web_neighbours_0 : decode b_Web_neighbours 0 = .ok (.aload_n 0, 1) := by decide +kernel
theorem d_Web_neighbours_1 : decode b_Web_neighbours 1 = .ok (.getfield 9, 3) := by decide +kernel
theorem d_Web_neighbours_4 : decode b_Web_neighbours 4 = .ok (.iload_n 1, 1) := by decide +kernel
theorem d_Web_neighbours_5 : decode b_Web_neighbours 5 = .ok (.iaload, 1) := by decide +kernel
theorem d_Web_neighbours_6 : decode b_Web_neighbours 6 = .ok (.ireturn, 1) := by decide +kernel
theorem d_Web_reach_0 : decode b_Web_reach 0 = .ok (.iconst 1, 1) := by decide +kernel
theorem d_Web_reach_1 : decode b_Web_reach 1 = .ok (.iload_n 1, 1) := by decide +kernel
theorem d_Web_reach_2 : decode b_Web_reach 2 = .ok (.ishl, 1) := by decide +kernel
theorem d_Web_reach_3 : decode b_Web_reach 3 = .ok (.istore_n 3, 1) := by decide +kernel
theorem d_Web_reach_4 : decode b_Web_reach 4 = .ok (.iload_n 3, 1) := by decide +kernel
theorem d_Web_reach_5 : decode b_Web_reach 5 = .ok (.istore 4, 2) := by decide +kernel
theorem d_Web_reach_7 : decode b_Web_reach 7 = .ok (.iconst 0, 1) := by decide +kernel
theorem d_Web_reach_8 : decode b_Web_reach 8 = .ok (.istore 5, 2) := by decide +kernel
theorem d_Web_reach_10 : decode b_Web_reach 10 = .ok (.iload 5, 2) := by decide +kernel
theorem d_Web_reach_12 : decode b_Web_reach 12 = .ok (.bipush 11, 2) := by decide +kernel
theorem d_Web_reach_14 : decode b_Web_reach 14 = .ok (.if_icmp .ge 74, 3) := by decide +kernel
theorem d_Web_reach_17 : decode b_Web_reach 17 = .ok (.iload 4, 2) := by decide +kernel
theorem d_Web_reach_19 : decode b_Web_reach 19 = .ok (.ifCond .eq 69, 3) := by decide +kernel
theorem d_Web_reach_22 : decode b_Web_reach 22 = .ok (.iconst 0, 1) := by decide +kernel
theorem d_Web_reach_23 : decode b_Web_reach 23 = .ok (.istore 6, 2) := by decide +kernel
theorem d_Web_reach_25 : decode b_Web_reach 25 = .ok (.iconst 0, 1) := by decide +kernel
theorem d_Web_reach_26 : decode b_Web_reach 26 = .ok (.istore 7, 2) := by decide +kernel
theorem d_Web_reach_28 : decode b_Web_reach 28 = .ok (.iload 7, 2) := by decide +kernel
theorem d_Web_reach_30 : decode b_Web_reach 30 = .ok (.bipush 11, 2) := by decide +kernel
theorem d_Web_reach_32 : decode b_Web_reach 32 = .ok (.if_icmp .ge 31, 3) := by decide +kernel
theorem d_Web_reach_35 : decode b_Web_reach 35 = .ok (.iload 4, 2) := by decide +kernel
theorem d_Web_reach_37 : decode b_Web_reach 37 = .ok (.iload 7, 2) := by decide +kernel
theorem d_Web_reach_39 : decode b_Web_reach 39 = .ok (.invokestatic 27, 3) := by decide +kernel
theorem d_Web_reach_42 : decode b_Web_reach 42 = .ok (.ifCond .eq 15, 3) := by decide +kernel
theorem d_Web_reach_45 : decode b_Web_reach 45 = .ok (.iload 6, 2) := by decide +kernel
theorem d_Web_reach_47 : decode b_Web_reach 47 = .ok (.aload_n 0, 1) := by decide +kernel
theorem d_Web_reach_48 : decode b_Web_reach 48 = .ok (.getfield 9, 3) := by decide +kernel
theorem d_Web_reach_51 : decode b_Web_reach 51 = .ok (.iload 7, 2) := by decide +kernel
theorem d_Web_reach_53 : decode b_Web_reach 53 = .ok (.iaload, 1) := by decide +kernel
theorem d_Web_reach_54 : decode b_Web_reach 54 = .ok (.ior, 1) := by decide +kernel
theorem d_Web_reach_55 : decode b_Web_reach 55 = .ok (.istore 6, 2) := by decide +kernel
theorem d_Web_reach_57 : decode b_Web_reach 57 = .ok (.iinc 7 1, 3) := by decide +kernel
theorem d_Web_reach_60 : decode b_Web_reach 60 = .ok (.goto (-32), 3) := by decide +kernel
theorem d_Web_reach_63 : decode b_Web_reach 63 = .ok (.iload 6, 2) := by decide +kernel
theorem d_Web_reach_65 : decode b_Web_reach 65 = .ok (.iload_n 3, 1) := by decide +kernel
theorem d_Web_reach_66 : decode b_Web_reach 66 = .ok (.iconst (-1), 1) := by decide +kernel
theorem d_Web_reach_67 : decode b_Web_reach 67 = .ok (.ixor, 1) := by decide +kernel
theorem d_Web_reach_68 : decode b_Web_reach 68 = .ok (.iand, 1) := by decide +kernel
theorem d_Web_reach_69 : decode b_Web_reach 69 = .ok (.istore 6, 2) := by decide +kernel
theorem d_Web_reach_71 : decode b_Web_reach 71 = .ok (.iload_n 3, 1) := by decide +kernel
theorem d_Web_reach_72 : decode b_Web_reach 72 = .ok (.iload 6, 2) := by decide +kernel
theorem d_Web_reach_74 : decode b_Web_reach 74 = .ok (.ior, 1) := by decide +kernel
theorem d_Web_reach_75 : decode b_Web_reach 75 = .ok (.istore_n 3, 1) := by decide +kernel
theorem d_Web_reach_76 : decode b_Web_reach 76 = .ok (.iload 6, 2) := by decide +kernel
theorem d_Web_reach_78 : decode b_Web_reach 78 = .ok (.iload_n 2, 1) := by decide +kernel
theorem d_Web_reach_79 : decode b_Web_reach 79 = .ok (.iand, 1) := by decide +kernel
theorem d_Web_reach_80 : decode b_Web_reach 80 = .ok (.istore 4, 2) := by decide +kernel
theorem d_Web_reach_82 : decode b_Web_reach 82 = .ok (.iinc 5 1, 3) := by decide +kernel
theorem d_Web_reach_85 : decode b_Web_reach 85 = .ok (.goto (-75), 3) := by decide +kernel
theorem d_Web_reach_88 : decode b_Web_reach 88 = .ok (.iload_n 3, 1) := by decide +kernel
theorem d_Web_reach_89 : decode b_Web_reach 89 = .ok (.ireturn, 1) := by decide +kernel
