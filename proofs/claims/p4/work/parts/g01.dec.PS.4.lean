theorem d_PS_meetWrongly_28 : decode b_PS_meetWrongly 28 = .ok (.iload_n 1, 1) := by decide +kernel
theorem d_PS_meetWrongly_29 : decode b_PS_meetWrongly 29 = .ok (.iaload, 1) := by decide +kernel
theorem d_PS_meetWrongly_30 : decode b_PS_meetWrongly 30 = .ok (.iload_n 2, 1) := by decide +kernel
theorem d_PS_meetWrongly_31 : decode b_PS_meetWrongly 31 = .ok (.invokevirtual 208, 3) := by decide +kernel
theorem d_PS_meetWrongly_34 : decode b_PS_meetWrongly 34 = .ok (.ifCond .eq 12, 3) := by decide +kernel
theorem d_PS_meetWrongly_37 : decode b_PS_meetWrongly 37 = .ok (.aload_n 0, 1) := by decide +kernel
theorem d_PS_meetWrongly_38 : decode b_PS_meetWrongly 38 = .ok (.getfield 13, 3) := by decide +kernel
theorem d_PS_meetWrongly_41 : decode b_PS_meetWrongly 41 = .ok (.iload_n 1, 1) := by decide +kernel
theorem d_PS_meetWrongly_42 : decode b_PS_meetWrongly 42 = .ok (.iaload, 1) := by decide +kernel
theorem d_PS_meetWrongly_43 : decode b_PS_meetWrongly 43 = .ok (.goto 4, 3) := by decide +kernel
theorem d_PS_meetWrongly_46 : decode b_PS_meetWrongly 46 = .ok (.iconst (-1), 1) := by decide +kernel
theorem d_PS_meetWrongly_47 : decode b_PS_meetWrongly 47 = .ok (.istore_n 3, 1) := by decide +kernel
theorem d_PS_meetWrongly_48 : decode b_PS_meetWrongly 48 = .ok (.iload_n 3, 1) := by decide +kernel
theorem d_PS_meetWrongly_49 : decode b_PS_meetWrongly 49 = .ok (.iconst (-1), 1) := by decide +kernel
theorem d_PS_meetWrongly_50 : decode b_PS_meetWrongly 50 = .ok (.if_icmp .ne 35, 3) := by decide +kernel
theorem d_PS_meetWrongly_53 : decode b_PS_meetWrongly 53 = .ok (.aload_n 0, 1) := by decide +kernel
theorem d_PS_meetWrongly_54 : decode b_PS_meetWrongly 54 = .ok (.getfield 40, 3) := by decide +kernel
theorem d_PS_meetWrongly_57 : decode b_PS_meetWrongly 57 = .ok (.aload_n 0, 1) := by decide +kernel
theorem d_PS_meetWrongly_58 : decode b_PS_meetWrongly 58 = .ok (.getfield 9, 3) := by decide +kernel
theorem d_PS_meetWrongly_61 : decode b_PS_meetWrongly 61 = .ok (.iload_n 1, 1) := by decide +kernel
theorem d_PS_meetWrongly_62 : decode b_PS_meetWrongly 62 = .ok (.iaload, 1) := by decide +kernel
theorem d_PS_meetWrongly_63 : decode b_PS_meetWrongly 63 = .ok (.aload_n 0, 1) := by decide +kernel
theorem d_PS_meetWrongly_64 : decode b_PS_meetWrongly 64 = .ok (.getfield 13, 3) := by decide +kernel
theorem d_PS_meetWrongly_67 : decode b_PS_meetWrongly 67 = .ok (.iload_n 1, 1) := by decide +kernel
theorem d_PS_meetWrongly_68 : decode b_PS_meetWrongly 68 = .ok (.iaload, 1) := by decide +kernel
theorem d_PS_meetWrongly_69 : decode b_PS_meetWrongly 69 = .ok (.aload_n 0, 1) := by decide +kernel
theorem d_PS_meetWrongly_70 : decode b_PS_meetWrongly 70 = .ok (.getfield 9, 3) := by decide +kernel
theorem d_PS_meetWrongly_73 : decode b_PS_meetWrongly 73 = .ok (.iload_n 2, 1) := by decide +kernel
theorem d_PS_meetWrongly_74 : decode b_PS_meetWrongly 74 = .ok (.iaload, 1) := by decide +kernel
theorem d_PS_meetWrongly_75 : decode b_PS_meetWrongly 75 = .ok (.aload_n 0, 1) := by decide +kernel
theorem d_PS_meetWrongly_76 : decode b_PS_meetWrongly 76 = .ok (.getfield 13, 3) := by decide +kernel
theorem d_PS_meetWrongly_79 : decode b_PS_meetWrongly 79 = .ok (.iload_n 2, 1) := by decide +kernel
theorem d_PS_meetWrongly_80 : decode b_PS_meetWrongly 80 = .ok (.iaload, 1) := by decide +kernel
theorem d_PS_meetWrongly_81 : decode b_PS_meetWrongly 81 = .ok (.invokevirtual 220, 3) := by decide +kernel
theorem d_PS_meetWrongly_84 : decode b_PS_meetWrongly 84 = .ok (.ireturn, 1) := by decide +kernel
theorem d_PS_meetWrongly_85 : decode b_PS_meetWrongly 85 = .ok (.aload_n 0, 1) := by decide +kernel
theorem d_PS_meetWrongly_86 : decode b_PS_meetWrongly 86 = .ok (.getfield 40, 3) := by decide +kernel
theorem d_PS_meetWrongly_89 : decode b_PS_meetWrongly 89 = .ok (.iload_n 3, 1) := by decide +kernel
theorem d_PS_meetWrongly_90 : decode b_PS_meetWrongly 90 = .ok (.aload_n 0, 1) := by decide +kernel
theorem d_PS_meetWrongly_91 : decode b_PS_meetWrongly 91 = .ok (.iload_n 1, 1) := by decide +kernel
theorem d_PS_meetWrongly_92 : decode b_PS_meetWrongly 92 = .ok (.iload_n 3, 1) := by decide +kernel
theorem d_PS_meetWrongly_93 : decode b_PS_meetWrongly 93 = .ok (.invokevirtual 224, 3) := by decide +kernel
theorem d_PS_meetWrongly_96 : decode b_PS_meetWrongly 96 = .ok (.aload_n 0, 1) := by decide +kernel
theorem d_PS_meetWrongly_97 : decode b_PS_meetWrongly 97 = .ok (.iload_n 2, 1) := by decide +kernel
theorem d_PS_meetWrongly_98 : decode b_PS_meetWrongly 98 = .ok (.iload_n 3, 1) := by decide +kernel
theorem d_PS_meetWrongly_99 : decode b_PS_meetWrongly 99 = .ok (.invokevirtual 224, 3) := by decide +kernel
theorem d_PS_meetWrongly_102 : decode b_PS_meetWrongly 102 = .ok (.invokevirtual 227, 3) := by decide +kernel
theorem d_PS_meetWrongly_105 : decode b_PS_meetWrongly 105 = .ok (.ireturn, 1) := by decide +kernel
theorem d_PS_meets_0 : decode b_PS_meets 0 = .ok (.aload_n 0, 1) := by decide +kernel
theorem d_PS_meets_1 : decode b_PS_meets 1 = .ok (.iload_n 1, 1) := by decide +kernel
theorem d_PS_meets_2 : decode b_PS_meets 2 = .ok (.invokevirtual 108, 3) := by decide +kernel
theorem d_PS_meets_5 : decode b_PS_meets 5 = .ok (.ifCond .eq 11, 3) := by decide +kernel
theorem d_PS_meets_8 : decode b_PS_meets 8 = .ok (.aload_n 0, 1) := by decide +kernel
theorem d_PS_meets_9 : decode b_PS_meets 9 = .ok (.iload_n 2, 1) := by decide +kernel
theorem d_PS_meets_10 : decode b_PS_meets 10 = .ok (.invokevirtual 108, 3) := by decide +kernel
theorem d_PS_meets_13 : decode b_PS_meets 13 = .ok (.ifCond .ne 13, 3) := by decide +kernel
theorem d_PS_meets_16 : decode b_PS_meets 16 = .ok (.new 80, 3) := by decide +kernel
theorem d_PS_meets_19 : decode b_PS_meets 19 = .ok (.dup, 1) := by decide +kernel
theorem d_PS_meets_20 : decode b_PS_meets 20 = .ok (.ldc 192, 2) := by decide +kernel
theorem d_PS_meets_22 : decode b_PS_meets 22 = .ok (.invokespecial 84, 3) := by decide +kernel
theorem d_PS_meets_25 : decode b_PS_meets 25 = .ok (.athrow, 1) := by decide +kernel
theorem d_PS_meets_26 : decode b_PS_meets 26 = .ok (.iload_n 1, 1) := by decide +kernel
theorem d_PS_meets_27 : decode b_PS_meets 27 = .ok (.iload_n 2, 1) := by decide +kernel
theorem d_PS_meets_28 : decode b_PS_meets 28 = .ok (.if_icmp .ne 13, 3) := by decide +kernel
theorem d_PS_meets_31 : decode b_PS_meets 31 = .ok (.new 85, 3) := by decide +kernel
theorem d_PS_meets_34 : decode b_PS_meets 34 = .ok (.dup, 1) := by decide +kernel
theorem d_PS_meets_35 : decode b_PS_meets 35 = .ok (.ldc 194, 2) := by decide +kernel
theorem d_PS_meets_37 : decode b_PS_meets 37 = .ok (.invokespecial 89, 3) := by decide +kernel
theorem d_PS_meets_40 : decode b_PS_meets 40 = .ok (.athrow, 1) := by decide +kernel
theorem d_PS_meets_41 : decode b_PS_meets 41 = .ok (.aload_n 0, 1) := by decide +kernel
theorem d_PS_meets_42 : decode b_PS_meets 42 = .ok (.iload_n 1, 1) := by decide +kernel
theorem d_PS_meets_43 : decode b_PS_meets 43 = .ok (.iload_n 2, 1) := by decide +kernel
theorem d_PS_meets_44 : decode b_PS_meets 44 = .ok (.invokevirtual 196, 3) := by decide +kernel
theorem d_PS_meets_47 : decode b_PS_meets 47 = .ok (.ireturn, 1) := by decide +kernel
theorem d_PS_node_0 : decode b_PS_node 0 = .ok (.iload_n 1, 1) := by decide +kernel
theorem d_PS_node_1 : decode b_PS_node 1 = .ok (.invokestatic 51, 3) := by decide +kernel
theorem d_PS_node_4 : decode b_PS_node 4 = .ok (.ifCond .ne 13, 3) := by decide +kernel
theorem d_PS_node_7 : decode b_PS_node 7 = .ok (.new 55, 3) := by decide +kernel
theorem d_PS_node_10 : decode b_PS_node 10 = .ok (.dup, 1) := by decide +kernel
theorem d_PS_node_11 : decode b_PS_node 11 = .ok (.ldc 57, 2) := by decide +kernel
theorem d_PS_node_13 : decode b_PS_node 13 = .ok (.invokespecial 59, 3) := by decide +kernel
theorem d_PS_node_16 : decode b_PS_node 16 = .ok (.athrow, 1) := by decide +kernel
theorem d_PS_node_17 : decode b_PS_node 17 = .ok (.aload_n 0, 1) := by decide +kernel
theorem d_PS_node_18 : decode b_PS_node 18 = .ok (.getfield 44, 3) := by decide +kernel
theorem d_PS_node_21 : decode b_PS_node 21 = .ok (.iload_n 1, 1) := by decide +kernel
theorem d_PS_node_22 : decode b_PS_node 22 = .ok (.invokestatic 62, 3) := by decide +kernel
theorem d_PS_node_25 : decode b_PS_node 25 = .ok (.ifCond .eq 13, 3) := by decide +kernel
theorem d_PS_node_28 : decode b_PS_node 28 = .ok (.new 66, 3) := by decide +kernel
theorem d_PS_node_31 : decode b_PS_node 31 = .ok (.dup, 1) := by decide +kernel
theorem d_PS_node_32 : decode b_PS_node 32 = .ok (.ldc 68, 2) := by decide +kernel
theorem d_PS_node_34 : decode b_PS_node 34 = .ok (.invokespecial 70, 3) := by decide +kernel
theorem d_PS_node_37 : decode b_PS_node 37 = .ok (.athrow, 1) := by decide +kernel
theorem d_PS_node_38 : decode b_PS_node 38 = .ok (.aload_n 0, 1) := by decide +kernel
theorem d_PS_node_39 : decode b_PS_node 39 = .ok (.dup, 1) := by decide +kernel
theorem d_PS_node_40 : decode b_PS_node 40 = .ok (.getfield 44, 3) := by decide +kernel
theorem d_PS_node_43 : decode b_PS_node 43 = .ok (.iconst 1, 1) := by decide +kernel
theorem d_PS_node_44 : decode b_PS_node 44 = .ok (.iload_n 1, 1) := by decide +kernel
theorem d_PS_node_45 : decode b_PS_node 45 = .ok (.ishl, 1) := by decide +kernel
theorem d_PS_node_46 : decode b_PS_node 46 = .ok (.ior, 1) := by decide +kernel
theorem d_PS_node_47 : decode b_PS_node 47 = .ok (.putfield 44, 3) := by decide +kernel
theorem d_PS_node_50 : decode b_PS_node 50 = .ok (.aload_n 0, 1) := by decide +kernel
theorem d_PS_node_51 : decode b_PS_node 51 = .ok (.getfield 44, 3) := by decide +kernel
theorem d_PS_node_54 : decode b_PS_node 54 = .ok (.invokestatic 71, 3) := by decide +kernel
theorem d_PS_node_57 : decode b_PS_node 57 = .ok (.ireturn, 1) := by decide +kernel
theorem d_PS_nodes_0 : decode b_PS_nodes 0 = .ok (.aload_n 0, 1) := by decide +kernel
theorem d_PS_nodes_1 : decode b_PS_nodes 1 = .ok (.getfield 44, 3) := by decide +kernel
theorem d_PS_nodes_4 : decode b_PS_nodes 4 = .ok (.ireturn, 1) := by decide +kernel
theorem d_PS_nthOf_0 : decode b_PS_nthOf 0 = .ok (.iconst 0, 1) := by decide +kernel
theorem d_PS_nthOf_1 : decode b_PS_nthOf 1 = .ok (.istore_n 2, 1) := by decide +kernel
theorem d_PS_nthOf_2 : decode b_PS_nthOf 2 = .ok (.iconst 0, 1) := by decide +kernel
theorem d_PS_nthOf_3 : decode b_PS_nthOf 3 = .ok (.istore_n 3, 1) := by decide +kernel
theorem d_PS_nthOf_4 : decode b_PS_nthOf 4 = .ok (.iload_n 3, 1) := by decide +kernel
theorem d_PS_nthOf_5 : decode b_PS_nthOf 5 = .ok (.bipush 10, 2) := by decide +kernel
theorem d_PS_nthOf_7 : decode b_PS_nthOf 7 = .ok (.if_icmp .ge 27, 3) := by decide +kernel
theorem d_PS_nthOf_10 : decode b_PS_nthOf 10 = .ok (.iload_n 0, 1) := by decide +kernel
theorem d_PS_nthOf_11 : decode b_PS_nthOf 11 = .ok (.iload_n 3, 1) := by decide +kernel
theorem d_PS_nthOf_12 : decode b_PS_nthOf 12 = .ok (.invokestatic 62, 3) := by decide +kernel
theorem d_PS_nthOf_15 : decode b_PS_nthOf 15 = .ok (.ifCond .eq 13, 3) := by decide +kernel
theorem d_PS_nthOf_18 : decode b_PS_nthOf 18 = .ok (.iload_n 2, 1) := by decide +kernel
theorem d_PS_nthOf_19 : decode b_PS_nthOf 19 = .ok (.iload_n 1, 1) := by decide +kernel
theorem d_PS_nthOf_20 : decode b_PS_nthOf 20 = .ok (.if_icmp .ne 5, 3) := by decide +kernel
theorem d_PS_nthOf_23 : decode b_PS_nthOf 23 = .ok (.iload_n 3, 1) := by decide +kernel
theorem d_PS_nthOf_24 : decode b_PS_nthOf 24 = .ok (.ireturn, 1) := by decide +kernel
theorem d_PS_nthOf_25 : decode b_PS_nthOf 25 = .ok (.iinc 2 1, 3) := by decide +kernel
theorem d_PS_nthOf_28 : decode b_PS_nthOf 28 = .ok (.iinc 3 1, 3) := by decide +kernel
theorem d_PS_nthOf_31 : decode b_PS_nthOf 31 = .ok (.goto (-27), 3) := by decide +kernel
theorem d_PS_nthOf_34 : decode b_PS_nthOf 34 = .ok (.iconst (-1), 1) := by decide +kernel
theorem d_PS_nthOf_35 : decode b_PS_nthOf 35 = .ok (.ireturn, 1) := by decide +kernel
theorem d_PS_oneIsEnough_0 : decode b_PS_oneIsEnough 0 = .ok (.iconst 0, 1) := by decide +kernel
theorem d_PS_oneIsEnough_1 : decode b_PS_oneIsEnough 1 = .ok (.istore_n 1, 1) := by decide +kernel
theorem d_PS_oneIsEnough_2 : decode b_PS_oneIsEnough 2 = .ok (.iload_n 1, 1) := by decide +kernel
theorem d_PS_oneIsEnough_3 : decode b_PS_oneIsEnough 3 = .ok (.bipush 24, 2) := by decide +kernel
theorem d_PS_oneIsEnough_5 : decode b_PS_oneIsEnough 5 = .ok (.if_icmp .ge 39, 3) := by decide +kernel
theorem d_PS_oneIsEnough_8 : decode b_PS_oneIsEnough 8 = .ok (.aload_n 0, 1) := by decide +kernel
theorem d_PS_oneIsEnough_9 : decode b_PS_oneIsEnough 9 = .ok (.getfield 48, 3) := by decide +kernel
theorem d_PS_oneIsEnough_12 : decode b_PS_oneIsEnough 12 = .ok (.iload_n 1, 1) := by decide +kernel
theorem d_PS_oneIsEnough_13 : decode b_PS_oneIsEnough 13 = .ok (.invokestatic 62, 3) := by decide +kernel
theorem d_PS_oneIsEnough_16 : decode b_PS_oneIsEnough 16 = .ok (.ifCond .eq 22, 3) := by decide +kernel
theorem d_PS_oneIsEnough_19 : decode b_PS_oneIsEnough 19 = .ok (.aload_n 0, 1) := by decide +kernel
theorem d_PS_oneIsEnough_20 : decode b_PS_oneIsEnough 20 = .ok (.aload_n 0, 1) := by decide +kernel
theorem d_PS_oneIsEnough_21 : decode b_PS_oneIsEnough 21 = .ok (.getfield 48, 3) := by decide +kernel
theorem d_PS_oneIsEnough_24 : decode b_PS_oneIsEnough 24 = .ok (.iconst 1, 1) := by decide +kernel
theorem d_PS_oneIsEnough_25 : decode b_PS_oneIsEnough 25 = .ok (.iload_n 1, 1) := by decide +kernel
theorem d_PS_oneIsEnough_26 : decode b_PS_oneIsEnough 26 = .ok (.ishl, 1) := by decide +kernel
theorem d_PS_oneIsEnough_27 : decode b_PS_oneIsEnough 27 = .ok (.iconst (-1), 1) := by decide +kernel
theorem d_PS_oneIsEnough_28 : decode b_PS_oneIsEnough 28 = .ok (.ixor, 1) := by decide +kernel
theorem d_PS_oneIsEnough_29 : decode b_PS_oneIsEnough 29 = .ok (.iand, 1) := by decide +kernel
theorem d_PS_oneIsEnough_30 : decode b_PS_oneIsEnough 30 = .ok (.invokevirtual 120, 3) := by decide +kernel
theorem d_PS_oneIsEnough_33 : decode b_PS_oneIsEnough 33 = .ok (.ifCond .eq 5, 3) := by decide +kernel
theorem d_PS_oneIsEnough_36 : decode b_PS_oneIsEnough 36 = .ok (.iconst 1, 1) := by decide +kernel
theorem d_PS_oneIsEnough_37 : decode b_PS_oneIsEnough 37 = .ok (.ireturn, 1) := by decide +kernel
theorem d_PS_oneIsEnough_38 : decode b_PS_oneIsEnough 38 = .ok (.iinc 1 1, 3) := by decide +kernel
theorem d_PS_oneIsEnough_41 : decode b_PS_oneIsEnough 41 = .ok (.goto (-39), 3) := by decide +kernel
theorem d_PS_oneIsEnough_44 : decode b_PS_oneIsEnough 44 = .ok (.iconst 0, 1) := by decide +kernel
theorem d_PS_oneIsEnough_45 : decode b_PS_oneIsEnough 45 = .ok (.ireturn, 1) := by decide +kernel
theorem d_PS_otherEnd_0 : decode b_PS_otherEnd 0 = .ok (.aload_n 0, 1) := by decide +kernel
theorem d_PS_otherEnd_1 : decode b_PS_otherEnd 1 = .ok (.getfield 9, 3) := by decide +kernel
theorem d_PS_otherEnd_4 : decode b_PS_otherEnd 4 = .ok (.iload_n 1, 1) := by decide +kernel
theorem d_PS_otherEnd_5 : decode b_PS_otherEnd 5 = .ok (.iaload, 1) := by decide +kernel
theorem d_PS_otherEnd_6 : decode b_PS_otherEnd 6 = .ok (.iload_n 2, 1) := by decide +kernel
theorem d_PS_otherEnd_7 : decode b_PS_otherEnd 7 = .ok (.if_icmp .ne 12, 3) := by decide +kernel
theorem d_PS_otherEnd_10 : decode b_PS_otherEnd 10 = .ok (.aload_n 0, 1) := by decide +kernel
theorem d_PS_otherEnd_11 : decode b_PS_otherEnd 11 = .ok (.getfield 13, 3) := by decide +kernel
theorem d_PS_otherEnd_14 : decode b_PS_otherEnd 14 = .ok (.iload_n 1, 1) := by decide +kernel
theorem d_PS_otherEnd_15 : decode b_PS_otherEnd 15 = .ok (.iaload, 1) := by decide +kernel
theorem d_PS_otherEnd_16 : decode b_PS_otherEnd 16 = .ok (.goto 9, 3) := by decide +kernel
theorem d_PS_otherEnd_19 : decode b_PS_otherEnd 19 = .ok (.aload_n 0, 1) := by decide +kernel
theorem d_PS_otherEnd_20 : decode b_PS_otherEnd 20 = .ok (.getfield 9, 3) := by decide +kernel
theorem d_PS_otherEnd_23 : decode b_PS_otherEnd 23 = .ok (.iload_n 1, 1) := by decide +kernel
theorem d_PS_otherEnd_24 : decode b_PS_otherEnd 24 = .ok (.iaload, 1) := by decide +kernel
theorem d_PS_otherEnd_25 : decode b_PS_otherEnd 25 = .ok (.ireturn, 1) := by decide +kernel
theorem d_PS_pattern_0 : decode b_PS_pattern 0 = .ok (.aload_n 0, 1) := by decide +kernel
theorem d_PS_pattern_1 : decode b_PS_pattern 1 = .ok (.invokevirtual 123, 3) := by decide +kernel
theorem d_PS_pattern_4 : decode b_PS_pattern 4 = .ok (.ireturn, 1) := by decide +kernel
theorem d_PS_pieces_0 : decode b_PS_pieces 0 = .ok (.aload_n 0, 1) := by decide +kernel
theorem d_PS_pieces_1 : decode b_PS_pieces 1 = .ok (.aload_n 0, 1) := by decide +kernel
theorem d_PS_pieces_2 : decode b_PS_pieces 2 = .ok (.getfield 44, 3) := by decide +kernel
theorem d_PS_pieces_5 : decode b_PS_pieces 5 = .ok (.aload_n 0, 1) := by decide +kernel
theorem d_PS_pieces_6 : decode b_PS_pieces 6 = .ok (.getfield 48, 3) := by decide +kernel
theorem d_PS_pieces_9 : decode b_PS_pieces 9 = .ok (.invokevirtual 141, 3) := by decide +kernel
theorem d_PS_pieces_12 : decode b_PS_pieces 12 = .ok (.ireturn, 1) := by decide +kernel
theorem d_PS_place_0 : decode b_PS_place 0 = .ok (.iload_n 1, 1) := by decide +kernel
theorem d_PS_place_1 : decode b_PS_place 1 = .ok (.invokestatic 51, 3) := by decide +kernel
theorem d_PS_place_4 : decode b_PS_place 4 = .ok (.ifCond .ne 13, 3) := by decide +kernel
theorem d_PS_place_7 : decode b_PS_place 7 = .ok (.new 55, 3) := by decide +kernel
theorem d_PS_place_10 : decode b_PS_place 10 = .ok (.dup, 1) := by decide +kernel
theorem d_PS_place_11 : decode b_PS_place 11 = .ok (.ldc 57, 2) := by decide +kernel
theorem d_PS_place_13 : decode b_PS_place 13 = .ok (.invokespecial 59, 3) := by decide +kernel
theorem d_PS_place_16 : decode b_PS_place 16 = .ok (.athrow, 1) := by decide +kernel
theorem d_PS_place_17 : decode b_PS_place 17 = .ok (.iload_n 2, 1) := by decide +kernel
theorem d_PS_place_18 : decode b_PS_place 18 = .ok (.ifCond .lt 19, 3) := by decide +kernel
theorem d_PS_place_21 : decode b_PS_place 21 = .ok (.iload_n 2, 1) := by decide +kernel
theorem d_PS_place_22 : decode b_PS_place 22 = .ok (.bipush 30, 2) := by decide +kernel
theorem d_PS_place_24 : decode b_PS_place 24 = .ok (.if_icmp .gt 13, 3) := by decide +kernel
theorem d_PS_place_27 : decode b_PS_place 27 = .ok (.iload_n 3, 1) := by decide +kernel
theorem d_PS_place_28 : decode b_PS_place 28 = .ok (.ifCond .lt 9, 3) := by decide +kernel
theorem d_PS_place_31 : decode b_PS_place 31 = .ok (.iload_n 3, 1) := by decide +kernel
theorem d_PS_place_32 : decode b_PS_place 32 = .ok (.bipush 30, 2) := by decide +kernel
theorem d_PS_place_34 : decode b_PS_place 34 = .ok (.if_icmp .le 13, 3) := by decide +kernel
theorem d_PS_place_37 : decode b_PS_place 37 = .ok (.new 85, 3) := by decide +kernel
theorem d_PS_place_40 : decode b_PS_place 40 = .ok (.dup, 1) := by decide +kernel
theorem d_PS_place_41 : decode b_PS_place 41 = .ok (.ldc 175, 2) := by decide +kernel
theorem d_PS_place_43 : decode b_PS_place 43 = .ok (.invokespecial 89, 3) := by decide +kernel
theorem d_PS_place_46 : decode b_PS_place 46 = .ok (.athrow, 1) := by decide +kernel
theorem d_PS_place_47 : decode b_PS_place 47 = .ok (.aload_n 0, 1) := by decide +kernel
theorem d_PS_place_48 : decode b_PS_place 48 = .ok (.getfield 40, 3) := by decide +kernel
theorem d_PS_place_51 : decode b_PS_place 51 = .ok (.iload_n 1, 1) := by decide +kernel
theorem d_PS_place_52 : decode b_PS_place 52 = .ok (.iload_n 2, 1) := by decide +kernel
theorem d_PS_place_53 : decode b_PS_place 53 = .ok (.iload_n 3, 1) := by decide +kernel
theorem d_PS_place_54 : decode b_PS_place 54 = .ok (.invokevirtual 177, 3) := by decide +kernel
theorem d_PS_place_57 : decode b_PS_place 57 = .ok (.aload_n 0, 1) := by decide +kernel
theorem d_PS_place_58 : decode b_PS_place 58 = .ok (.invokevirtual 181, 3) := by decide +kernel
theorem d_PS_place_61 : decode b_PS_place 61 = .ok (.ireturn, 1) := by decide +kernel
theorem d_PS_room_0 : decode b_PS_room 0 = .ok (.iconst 0, 1) := by decide +kernel
theorem d_PS_room_1 : decode b_PS_room 1 = .ok (.istore_n 1, 1) := by decide +kernel
theorem d_PS_room_2 : decode b_PS_room 2 = .ok (.iconst 0, 1) := by decide +kernel
theorem d_PS_room_3 : decode b_PS_room 3 = .ok (.istore_n 2, 1) := by decide +kernel
theorem d_PS_room_4 : decode b_PS_room 4 = .ok (.iload_n 2, 1) := by decide +kernel
theorem d_PS_room_5 : decode b_PS_room 5 = .ok (.bipush 10, 2) := by decide +kernel
theorem d_PS_room_7 : decode b_PS_room 7 = .ok (.if_icmp .ge 68, 3) := by decide +kernel
theorem d_PS_room_10 : decode b_PS_room 10 = .ok (.iload_n 2, 1) := by decide +kernel
theorem d_PS_room_11 : decode b_PS_room 11 = .ok (.iconst 1, 1) := by decide +kernel
theorem d_PS_room_12 : decode b_PS_room 12 = .ok (.iadd, 1) := by decide +kernel
theorem d_PS_room_13 : decode b_PS_room 13 = .ok (.istore_n 3, 1) := by decide +kernel
theorem d_PS_room_14 : decode b_PS_room 14 = .ok (.iload_n 3, 1) := by decide +kernel
theorem d_PS_room_15 : decode b_PS_room 15 = .ok (.bipush 10, 2) := by decide +kernel
theorem d_PS_room_17 : decode b_PS_room 17 = .ok (.if_icmp .ge 52, 3) := by decide +kernel
theorem d_PS_room_20 : decode b_PS_room 20 = .ok (.aload_n 0, 1) := by decide +kernel
theorem d_PS_room_21 : decode b_PS_room 21 = .ok (.getfield 44, 3) := by decide +kernel
theorem d_PS_room_24 : decode b_PS_room 24 = .ok (.iload_n 2, 1) := by decide +kernel
theorem d_PS_room_25 : decode b_PS_room 25 = .ok (.invokestatic 62, 3) := by decide +kernel
theorem d_PS_room_28 : decode b_PS_room 28 = .ok (.ifCond .eq 35, 3) := by decide +kernel
theorem d_PS_room_31 : decode b_PS_room 31 = .ok (.aload_n 0, 1) := by decide +kernel
theorem d_PS_room_32 : decode b_PS_room 32 = .ok (.getfield 44, 3) := by decide +kernel
theorem d_PS_room_35 : decode b_PS_room 35 = .ok (.iload_n 3, 1) := by decide +kernel
theorem d_PS_room_36 : decode b_PS_room 36 = .ok (.invokestatic 62, 3) := by decide +kernel
theorem d_PS_room_39 : decode b_PS_room 39 = .ok (.ifCond .eq 24, 3) := by decide +kernel
theorem d_PS_room_42 : decode b_PS_room 42 = .ok (.aload_n 0, 1) := by decide +kernel
theorem d_PS_room_43 : decode b_PS_room 43 = .ok (.iload_n 2, 1) := by decide +kernel
theorem d_PS_room_44 : decode b_PS_room 44 = .ok (.iload_n 3, 1) := by decide +kernel
theorem d_PS_room_45 : decode b_PS_room 45 = .ok (.invokevirtual 94, 3) := by decide +kernel
theorem d_PS_room_48 : decode b_PS_room 48 = .ok (.ifCond .ne 15, 3) := by decide +kernel
theorem d_PS_room_51 : decode b_PS_room 51 = .ok (.aload_n 0, 1) := by decide +kernel
theorem d_PS_room_52 : decode b_PS_room 52 = .ok (.iload_n 2, 1) := by decide +kernel
theorem d_PS_room_53 : decode b_PS_room 53 = .ok (.iload_n 3, 1) := by decide +kernel
theorem d_PS_room_54 : decode b_PS_room 54 = .ok (.invokevirtual 146, 3) := by decide +kernel
theorem d_PS_room_57 : decode b_PS_room 57 = .ok (.ifCond .eq 6, 3) := by decide +kernel
theorem d_PS_room_60 : decode b_PS_room 60 = .ok (.iinc 1 1, 3) := by decide +kernel
theorem d_PS_room_63 : decode b_PS_room 63 = .ok (.iinc 3 1, 3) := by decide +kernel
theorem d_PS_room_66 : decode b_PS_room 66 = .ok (.goto (-52), 3) := by decide +kernel
