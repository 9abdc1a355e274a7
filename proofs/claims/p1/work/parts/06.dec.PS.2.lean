theorem d_PS_has_1 : decode b_PS_has 1 = .ok (.iload_n 1, 1) := by decide +kernel
theorem d_PS_has_2 : decode b_PS_has 2 = .ok (.ishr, 1) := by decide +kernel
theorem d_PS_has_3 : decode b_PS_has 3 = .ok (.iconst 1, 1) := by decide +kernel
theorem d_PS_has_4 : decode b_PS_has 4 = .ok (.iand, 1) := by decide +kernel
theorem d_PS_has_5 : decode b_PS_has 5 = .ok (.ifCond .eq 7, 3) := by decide +kernel
theorem d_PS_has_8 : decode b_PS_has 8 = .ok (.iconst 1, 1) := by decide +kernel
theorem d_PS_has_9 : decode b_PS_has 9 = .ok (.goto 4, 3) := by decide +kernel
theorem d_PS_has_12 : decode b_PS_has 12 = .ok (.iconst 0, 1) := by decide +kernel
theorem d_PS_has_13 : decode b_PS_has 13 = .ok (.ireturn, 1) := by decide +kernel
theorem d_PS_hinge_0 : decode b_PS_hinge 0 = .ok (.aload_n 0, 1) := by decide +kernel
theorem d_PS_hinge_1 : decode b_PS_hinge 1 = .ok (.iload_n 1, 1) := by decide +kernel
theorem d_PS_hinge_2 : decode b_PS_hinge 2 = .ok (.invokevirtual 77, 3) := by decide +kernel
theorem d_PS_hinge_5 : decode b_PS_hinge 5 = .ok (.ifCond .ne 13, 3) := by decide +kernel
theorem d_PS_hinge_8 : decode b_PS_hinge 8 = .ok (.new 80, 3) := by decide +kernel
theorem d_PS_hinge_11 : decode b_PS_hinge 11 = .ok (.dup, 1) := by decide +kernel
theorem d_PS_hinge_12 : decode b_PS_hinge 12 = .ok (.ldc 113, 2) := by decide +kernel
theorem d_PS_hinge_14 : decode b_PS_hinge 14 = .ok (.invokespecial 84, 3) := by decide +kernel
theorem d_PS_hinge_17 : decode b_PS_hinge 17 = .ok (.athrow, 1) := by decide +kernel
theorem d_PS_isNodeNumber_0 : decode b_PS_isNodeNumber 0 = .ok (.iload_n 0, 1) := by decide +kernel
theorem d_PS_isNodeNumber_1 : decode b_PS_isNodeNumber 1 = .ok (.ifCond .lt 13, 3) := by decide +kernel
theorem d_PS_isNodeNumber_4 : decode b_PS_isNodeNumber 4 = .ok (.iload_n 0, 1) := by decide +kernel
theorem d_PS_isNodeNumber_5 : decode b_PS_isNodeNumber 5 = .ok (.bipush 10, 2) := by decide +kernel
theorem d_PS_isNodeNumber_7 : decode b_PS_isNodeNumber 7 = .ok (.if_icmp .ge 7, 3) := by decide +kernel
theorem d_PS_isNodeNumber_10 : decode b_PS_isNodeNumber 10 = .ok (.iconst 1, 1) := by decide +kernel
theorem d_PS_isNodeNumber_11 : decode b_PS_isNodeNumber 11 = .ok (.goto 4, 3) := by decide +kernel
theorem d_PS_isNodeNumber_14 : decode b_PS_isNodeNumber 14 = .ok (.iconst 0, 1) := by decide +kernel
theorem d_PS_isNodeNumber_15 : decode b_PS_isNodeNumber 15 = .ok (.ireturn, 1) := by decide +kernel
theorem d_PS_line_0 : decode b_PS_line 0 = .ok (.aload_n 0, 1) := by decide +kernel
theorem d_PS_line_1 : decode b_PS_line 1 = .ok (.iload_n 1, 1) := by decide +kernel
theorem d_PS_line_2 : decode b_PS_line 2 = .ok (.invokevirtual 77, 3) := by decide +kernel
theorem d_PS_line_5 : decode b_PS_line 5 = .ok (.ifCond .eq 11, 3) := by decide +kernel
theorem d_PS_line_16 : decode b_PS_line 16 = .ok (.new 80, 3) := by decide +kernel
theorem d_PS_line_19 : decode b_PS_line 19 = .ok (.dup, 1) := by decide +kernel
theorem d_PS_line_20 : decode b_PS_line 20 = .ok (.ldc 82, 2) := by decide +kernel
theorem d_PS_line_22 : decode b_PS_line 22 = .ok (.invokespecial 84, 3) := by decide +kernel
theorem d_PS_line_25 : decode b_PS_line 25 = .ok (.athrow, 1) := by decide +kernel
theorem d_PS_lineIsThere_0 : decode b_PS_lineIsThere 0 = .ok (.iload_n 1, 1) := by decide +kernel
theorem d_PS_lineIsThere_1 : decode b_PS_lineIsThere 1 = .ok (.ifCond .lt 24, 3) := by decide +kernel
theorem d_PS_lineIsThere_4 : decode b_PS_lineIsThere 4 = .ok (.iload_n 1, 1) := by decide +kernel
theorem d_PS_lineIsThere_5 : decode b_PS_lineIsThere 5 = .ok (.bipush 24, 2) := by decide +kernel
theorem d_PS_lineIsThere_7 : decode b_PS_lineIsThere 7 = .ok (.if_icmp .ge 18, 3) := by decide +kernel
theorem d_PS_lineIsThere_10 : decode b_PS_lineIsThere 10 = .ok (.aload_n 0, 1) := by decide +kernel
theorem d_PS_lineIsThere_11 : decode b_PS_lineIsThere 11 = .ok (.getfield 48, 3) := by decide +kernel
theorem d_PS_lineIsThere_14 : decode b_PS_lineIsThere 14 = .ok (.iload_n 1, 1) := by decide +kernel
theorem d_PS_lineIsThere_15 : decode b_PS_lineIsThere 15 = .ok (.invokestatic 62, 3) := by decide +kernel
theorem d_PS_lineIsThere_18 : decode b_PS_lineIsThere 18 = .ok (.ifCond .eq 7, 3) := by decide +kernel
theorem d_PS_lineIsThere_21 : decode b_PS_lineIsThere 21 = .ok (.iconst 1, 1) := by decide +kernel
theorem d_PS_lineIsThere_22 : decode b_PS_lineIsThere 22 = .ok (.goto 4, 3) := by decide +kernel
theorem d_PS_lineIsThere_25 : decode b_PS_lineIsThere 25 = .ok (.iconst 0, 1) := by decide +kernel
theorem d_PS_lineIsThere_26 : decode b_PS_lineIsThere 26 = .ok (.ireturn, 1) := by decide +kernel
theorem d_PS_lines_0 : decode b_PS_lines 0 = .ok (.aload_n 0, 1) := by decide +kernel
theorem d_PS_lines_1 : decode b_PS_lines 1 = .ok (.getfield 48, 3) := by decide +kernel
theorem d_PS_lines_4 : decode b_PS_lines 4 = .ok (.ireturn, 1) := by decide +kernel
theorem d_PS_meets_0 : decode b_PS_meets 0 = .ok (.aload_n 0, 1) := by decide +kernel
theorem d_PS_meets_1 : decode b_PS_meets 1 = .ok (.iload_n 1, 1) := by decide +kernel
theorem d_PS_meets_2 : decode b_PS_meets 2 = .ok (.invokevirtual 108, 3) := by decide +kernel
theorem d_PS_meets_5 : decode b_PS_meets 5 = .ok (.ifCond .eq 11, 3) := by decide +kernel
theorem d_PS_meets_16 : decode b_PS_meets 16 = .ok (.new 80, 3) := by decide +kernel
theorem d_PS_meets_19 : decode b_PS_meets 19 = .ok (.dup, 1) := by decide +kernel
theorem d_PS_meets_20 : decode b_PS_meets 20 = .ok (.ldc 192, 2) := by decide +kernel
theorem d_PS_meets_22 : decode b_PS_meets 22 = .ok (.invokespecial 84, 3) := by decide +kernel
theorem d_PS_meets_25 : decode b_PS_meets 25 = .ok (.athrow, 1) := by decide +kernel
theorem d_PS_node_0 : decode b_PS_node 0 = .ok (.iload_n 1, 1) := by decide +kernel
theorem d_PS_node_1 : decode b_PS_node 1 = .ok (.invokestatic 51, 3) := by decide +kernel
theorem d_PS_node_4 : decode b_PS_node 4 = .ok (.ifCond .ne 13, 3) := by decide +kernel
theorem d_PS_node_7 : decode b_PS_node 7 = .ok (.new 55, 3) := by decide +kernel
theorem d_PS_node_10 : decode b_PS_node 10 = .ok (.dup, 1) := by decide +kernel
theorem d_PS_node_11 : decode b_PS_node 11 = .ok (.ldc 57, 2) := by decide +kernel
theorem d_PS_node_13 : decode b_PS_node 13 = .ok (.invokespecial 59, 3) := by decide +kernel
theorem d_PS_node_16 : decode b_PS_node 16 = .ok (.athrow, 1) := by decide +kernel
theorem d_PS_node_17 : decode b_PS_node 17 = .ok (.aload_n 0, 1) := by decide +kernel
theorem d_PS_node_18 : decode b_PS_node 18 = .ok (.getfield 44, 3) := by decide +kernel
theorem d_PS_node_21 : decode b_PS_node 21 = .ok (.iload_n 1, 1) := by decide +kernel
theorem d_PS_node_22 : decode b_PS_node 22 = .ok (.invokestatic 62, 3) := by decide +kernel
theorem d_PS_node_25 : decode b_PS_node 25 = .ok (.ifCond .eq 13, 3) := by decide +kernel
theorem d_PS_node_38 : decode b_PS_node 38 = .ok (.aload_n 0, 1) := by decide +kernel
theorem d_PS_node_39 : decode b_PS_node 39 = .ok (.dup, 1) := by decide +kernel
theorem d_PS_node_40 : decode b_PS_node 40 = .ok (.getfield 44, 3) := by decide +kernel
theorem d_PS_node_43 : decode b_PS_node 43 = .ok (.iconst 1, 1) := by decide +kernel
theorem d_PS_node_44 : decode b_PS_node 44 = .ok (.iload_n 1, 1) := by decide +kernel
theorem d_PS_node_45 : decode b_PS_node 45 = .ok (.ishl, 1) := by decide +kernel
theorem d_PS_node_46 : decode b_PS_node 46 = .ok (.ior, 1) := by decide +kernel
theorem d_PS_node_47 : decode b_PS_node 47 = .ok (.putfield 44, 3) := by decide +kernel
theorem d_PS_node_50 : decode b_PS_node 50 = .ok (.aload_n 0, 1) := by decide +kernel
theorem d_PS_node_51 : decode b_PS_node 51 = .ok (.getfield 44, 3) := by decide +kernel
theorem d_PS_node_54 : decode b_PS_node 54 = .ok (.invokestatic 71, 3) := by decide +kernel
theorem d_PS_node_57 : decode b_PS_node 57 = .ok (.ireturn, 1) := by decide +kernel
theorem d_PS_nodeIsThere_0 : decode b_PS_nodeIsThere 0 = .ok (.iload_n 1, 1) := by decide +kernel
theorem d_PS_nodeIsThere_1 : decode b_PS_nodeIsThere 1 = .ok (.invokestatic 51, 3) := by decide +kernel
theorem d_PS_nodeIsThere_4 : decode b_PS_nodeIsThere 4 = .ok (.ifCond .eq 18, 3) := by decide +kernel
theorem d_PS_nodeIsThere_7 : decode b_PS_nodeIsThere 7 = .ok (.aload_n 0, 1) := by decide +kernel
theorem d_PS_nodeIsThere_8 : decode b_PS_nodeIsThere 8 = .ok (.getfield 44, 3) := by decide +kernel
theorem d_PS_nodeIsThere_11 : decode b_PS_nodeIsThere 11 = .ok (.iload_n 1, 1) := by decide +kernel
theorem d_PS_nodeIsThere_12 : decode b_PS_nodeIsThere 12 = .ok (.invokestatic 62, 3) := by decide +kernel
theorem d_PS_nodeIsThere_15 : decode b_PS_nodeIsThere 15 = .ok (.ifCond .eq 7, 3) := by decide +kernel
theorem d_PS_nodeIsThere_18 : decode b_PS_nodeIsThere 18 = .ok (.iconst 1, 1) := by decide +kernel
theorem d_PS_nodeIsThere_19 : decode b_PS_nodeIsThere 19 = .ok (.goto 4, 3) := by decide +kernel
theorem d_PS_nodeIsThere_22 : decode b_PS_nodeIsThere 22 = .ok (.iconst 0, 1) := by decide +kernel
theorem d_PS_nodeIsThere_23 : decode b_PS_nodeIsThere 23 = .ok (.ireturn, 1) := by decide +kernel
theorem d_PS_nodes_0 : decode b_PS_nodes 0 = .ok (.aload_n 0, 1) := by decide +kernel
theorem d_PS_nodes_1 : decode b_PS_nodes 1 = .ok (.getfield 44, 3) := by decide +kernel
theorem d_PS_nodes_4 : decode b_PS_nodes 4 = .ok (.ireturn, 1) := by decide +kernel
theorem d_PS_pattern_0 : decode b_PS_pattern 0 = .ok (.aload_n 0, 1) := by decide +kernel
theorem d_PS_pattern_1 : decode b_PS_pattern 1 = .ok (.invokevirtual 123, 3) := by decide +kernel
theorem d_PS_pattern_4 : decode b_PS_pattern 4 = .ok (.ireturn, 1) := by decide +kernel
theorem d_PS_pieces_0 : decode b_PS_pieces 0 = .ok (.aload_n 0, 1) := by decide +kernel
theorem d_PS_pieces_1 : decode b_PS_pieces 1 = .ok (.aload_n 0, 1) := by decide +kernel
theorem d_PS_pieces_2 : decode b_PS_pieces 2 = .ok (.getfield 44, 3) := by decide +kernel
theorem d_PS_pieces_5 : decode b_PS_pieces 5 = .ok (.aload_n 0, 1) := by decide +kernel
theorem d_PS_pieces_6 : decode b_PS_pieces 6 = .ok (.getfield 48, 3) := by decide +kernel
theorem d_PS_pieces_9 : decode b_PS_pieces 9 = .ok (.invokevirtual 141, 3) := by decide +kernel
theorem d_PS_pieces_12 : decode b_PS_pieces 12 = .ok (.ireturn, 1) := by decide +kernel
theorem d_PS_place_0 : decode b_PS_place 0 = .ok (.iload_n 1, 1) := by decide +kernel
theorem d_PS_place_1 : decode b_PS_place 1 = .ok (.invokestatic 51, 3) := by decide +kernel
theorem d_PS_place_4 : decode b_PS_place 4 = .ok (.ifCond .ne 13, 3) := by decide +kernel
theorem d_PS_place_7 : decode b_PS_place 7 = .ok (.new 55, 3) := by decide +kernel
theorem d_PS_place_10 : decode b_PS_place 10 = .ok (.dup, 1) := by decide +kernel
theorem d_PS_place_11 : decode b_PS_place 11 = .ok (.ldc 57, 2) := by decide +kernel
theorem d_PS_place_13 : decode b_PS_place 13 = .ok (.invokespecial 59, 3) := by decide +kernel
theorem d_PS_place_16 : decode b_PS_place 16 = .ok (.athrow, 1) := by decide +kernel
theorem d_PS_place_17 : decode b_PS_place 17 = .ok (.iload_n 2, 1) := by decide +kernel
theorem d_PS_place_18 : decode b_PS_place 18 = .ok (.ifCond .lt 19, 3) := by decide +kernel
theorem d_PS_place_21 : decode b_PS_place 21 = .ok (.iload_n 2, 1) := by decide +kernel
theorem d_PS_place_22 : decode b_PS_place 22 = .ok (.bipush 30, 2) := by decide +kernel
theorem d_PS_place_24 : decode b_PS_place 24 = .ok (.if_icmp .gt 13, 3) := by decide +kernel
theorem d_PS_place_27 : decode b_PS_place 27 = .ok (.iload_n 3, 1) := by decide +kernel
theorem d_PS_place_28 : decode b_PS_place 28 = .ok (.ifCond .lt 9, 3) := by decide +kernel
theorem d_PS_place_31 : decode b_PS_place 31 = .ok (.iload_n 3, 1) := by decide +kernel
theorem d_PS_place_32 : decode b_PS_place 32 = .ok (.bipush 30, 2) := by decide +kernel
theorem d_PS_place_34 : decode b_PS_place 34 = .ok (.if_icmp .le 13, 3) := by decide +kernel
theorem d_PS_place_37 : decode b_PS_place 37 = .ok (.new 85, 3) := by decide +kernel
theorem d_PS_place_40 : decode b_PS_place 40 = .ok (.dup, 1) := by decide +kernel
theorem d_PS_place_41 : decode b_PS_place 41 = .ok (.ldc 175, 2) := by decide +kernel
theorem d_PS_place_43 : decode b_PS_place 43 = .ok (.invokespecial 89, 3) := by decide +kernel
theorem d_PS_place_46 : decode b_PS_place 46 = .ok (.athrow, 1) := by decide +kernel
theorem d_PS_place_47 : decode b_PS_place 47 = .ok (.aload_n 0, 1) := by decide +kernel
theorem d_PS_place_48 : decode b_PS_place 48 = .ok (.getfield 40, 3) := by decide +kernel
theorem d_PS_place_51 : decode b_PS_place 51 = .ok (.iload_n 1, 1) := by decide +kernel
theorem d_PS_place_52 : decode b_PS_place 52 = .ok (.iload_n 2, 1) := by decide +kernel
theorem d_PS_place_53 : decode b_PS_place 53 = .ok (.iload_n 3, 1) := by decide +kernel
theorem d_PS_place_54 : decode b_PS_place 54 = .ok (.invokevirtual 177, 3) := by decide +kernel
theorem d_PS_place_57 : decode b_PS_place 57 = .ok (.aload_n 0, 1) := by decide +kernel
theorem d_PS_place_58 : decode b_PS_place 58 = .ok (.invokevirtual 181, 3) := by decide +kernel
theorem d_PS_place_61 : decode b_PS_place 61 = .ok (.ireturn, 1) := by decide +kernel
theorem d_PS_room_0 : decode b_PS_room 0 = .ok (.iconst 0, 1) := by decide +kernel
theorem d_PS_room_1 : decode b_PS_room 1 = .ok (.istore_n 1, 1) := by decide +kernel
theorem d_PS_room_2 : decode b_PS_room 2 = .ok (.iconst 0, 1) := by decide +kernel
theorem d_PS_room_3 : decode b_PS_room 3 = .ok (.istore_n 2, 1) := by decide +kernel
theorem d_PS_room_4 : decode b_PS_room 4 = .ok (.iload_n 2, 1) := by decide +kernel
theorem d_PS_room_5 : decode b_PS_room 5 = .ok (.bipush 10, 2) := by decide +kernel
theorem d_PS_room_7 : decode b_PS_room 7 = .ok (.if_icmp .ge 68, 3) := by decide +kernel
theorem d_PS_room_10 : decode b_PS_room 10 = .ok (.iload_n 2, 1) := by decide +kernel
theorem d_PS_room_11 : decode b_PS_room 11 = .ok (.iconst 1, 1) := by decide +kernel
theorem d_PS_room_12 : decode b_PS_room 12 = .ok (.iadd, 1) := by decide +kernel
theorem d_PS_room_13 : decode b_PS_room 13 = .ok (.istore_n 3, 1) := by decide +kernel
theorem d_PS_room_14 : decode b_PS_room 14 = .ok (.iload_n 3, 1) := by decide +kernel
theorem d_PS_room_15 : decode b_PS_room 15 = .ok (.bipush 10, 2) := by decide +kernel
theorem d_PS_room_17 : decode b_PS_room 17 = .ok (.if_icmp .ge 52, 3) := by decide +kernel
theorem d_PS_room_20 : decode b_PS_room 20 = .ok (.aload_n 0, 1) := by decide +kernel
theorem d_PS_room_21 : decode b_PS_room 21 = .ok (.getfield 44, 3) := by decide +kernel
theorem d_PS_room_24 : decode b_PS_room 24 = .ok (.iload_n 2, 1) := by decide +kernel
theorem d_PS_room_25 : decode b_PS_room 25 = .ok (.invokestatic 62, 3) := by decide +kernel
theorem d_PS_room_28 : decode b_PS_room 28 = .ok (.ifCond .eq 35, 3) := by decide +kernel
theorem d_PS_room_63 : decode b_PS_room 63 = .ok (.iinc 3 1, 3) := by decide +kernel
theorem d_PS_room_66 : decode b_PS_room 66 = .ok (.goto (-52), 3) := by decide +kernel
theorem d_PS_room_69 : decode b_PS_room 69 = .ok (.iinc 2 1, 3) := by decide +kernel
theorem d_PS_room_72 : decode b_PS_room 72 = .ok (.goto (-68), 3) := by decide +kernel
theorem d_PS_room_75 : decode b_PS_room 75 = .ok (.iload_n 1, 1) := by decide +kernel
theorem d_PS_room_76 : decode b_PS_room 76 = .ok (.ireturn, 1) := by decide +kernel
theorem d_PS_spare_0 : decode b_PS_spare 0 = .ok (.aload_n 0, 1) := by decide +kernel
theorem d_PS_spare_1 : decode b_PS_spare 1 = .ok (.aload_n 0, 1) := by decide +kernel
theorem d_PS_spare_2 : decode b_PS_spare 2 = .ok (.getfield 48, 3) := by decide +kernel
theorem d_PS_spare_5 : decode b_PS_spare 5 = .ok (.invokevirtual 120, 3) := by decide +kernel
theorem d_PS_spare_8 : decode b_PS_spare 8 = .ok (.ifCond .eq 5, 3) := by decide +kernel
theorem d_PS_spare_11 : decode b_PS_spare 11 = .ok (.iconst 0, 1) := by decide +kernel
theorem d_PS_spare_12 : decode b_PS_spare 12 = .ok (.ireturn, 1) := by decide +kernel
theorem d_PS_spin_0 : decode b_PS_spin 0 = .ok (.aload_n 0, 1) := by decide +kernel
theorem d_PS_spin_1 : decode b_PS_spin 1 = .ok (.getfield 19, 3) := by decide +kernel
theorem d_PS_spin_4 : decode b_PS_spin 4 = .ok (.invokevirtual 211, 3) := by decide +kernel
theorem d_PS_spin_7 : decode b_PS_spin 7 = .ok (.iconst 0, 1) := by decide +kernel
theorem d_PS_spin_8 : decode b_PS_spin 8 = .ok (.istore_n 2, 1) := by decide +kernel
theorem d_PS_spin_9 : decode b_PS_spin 9 = .ok (.iload_n 2, 1) := by decide +kernel
theorem d_PS_spin_10 : decode b_PS_spin 10 = .ok (.bipush 24, 2) := by decide +kernel
theorem d_PS_spin_12 : decode b_PS_spin 12 = .ok (.if_icmp .ge 36, 3) := by decide +kernel
theorem d_PS_spin_15 : decode b_PS_spin 15 = .ok (.iload_n 1, 1) := by decide +kernel
theorem d_PS_spin_16 : decode b_PS_spin 16 = .ok (.iload_n 2, 1) := by decide +kernel
theorem d_PS_spin_17 : decode b_PS_spin 17 = .ok (.invokestatic 62, 3) := by decide +kernel
theorem d_PS_spin_20 : decode b_PS_spin 20 = .ok (.ifCond .eq 22, 3) := by decide +kernel
theorem d_PS_spin_42 : decode b_PS_spin 42 = .ok (.iinc 2 1, 3) := by decide +kernel
theorem d_PS_spin_45 : decode b_PS_spin 45 = .ok (.goto (-36), 3) := by decide +kernel
theorem d_PS_spin_48 : decode b_PS_spin 48 = .ok (.return_, 1) := by decide +kernel
theorem d_PS_witness_0 : decode b_PS_witness 0 = .ok (.aload_n 0, 1) := by decide +kernel
theorem d_PS_witness_1 : decode b_PS_witness 1 = .ok (.invokevirtual 123, 3) := by decide +kernel
theorem d_PS_witness_4 : decode b_PS_witness 4 = .ok (.istore_n 1, 1) := by decide +kernel
theorem d_PS_witness_5 : decode b_PS_witness 5 = .ok (.iload_n 1, 1) := by decide +kernel
theorem d_PS_witness_6 : decode b_PS_witness 6 = .ok (.ifCond .ne 5, 3) := by decide +kernel
theorem d_PS_witness_9 : decode b_PS_witness 9 = .ok (.iconst 0, 1) := by decide +kernel
theorem d_PS_witness_10 : decode b_PS_witness 10 = .ok (.ireturn, 1) := by decide +kernel
theorem d_PS_wrong_0 : decode b_PS_wrong 0 = .ok (.iconst 0, 1) := by decide +kernel
theorem d_PS_wrong_1 : decode b_PS_wrong 1 = .ok (.istore_n 1, 1) := by decide +kernel
theorem d_PS_wrong_2 : decode b_PS_wrong 2 = .ok (.iconst 0, 1) := by decide +kernel
theorem d_PS_wrong_3 : decode b_PS_wrong 3 = .ok (.istore_n 2, 1) := by decide +kernel
theorem d_PS_wrong_4 : decode b_PS_wrong 4 = .ok (.iload_n 2, 1) := by decide +kernel
theorem d_PS_wrong_5 : decode b_PS_wrong 5 = .ok (.bipush 10, 2) := by decide +kernel
theorem d_PS_wrong_7 : decode b_PS_wrong 7 = .ok (.if_icmp .ge 31, 3) := by decide +kernel
theorem d_PS_wrong_10 : decode b_PS_wrong 10 = .ok (.aload_n 0, 1) := by decide +kernel
theorem d_PS_wrong_11 : decode b_PS_wrong 11 = .ok (.getfield 44, 3) := by decide +kernel
theorem d_PS_wrong_14 : decode b_PS_wrong 14 = .ok (.iload_n 2, 1) := by decide +kernel
theorem d_PS_wrong_15 : decode b_PS_wrong 15 = .ok (.invokestatic 62, 3) := by decide +kernel
theorem d_PS_wrong_18 : decode b_PS_wrong 18 = .ok (.ifCond .eq 14, 3) := by decide +kernel
theorem d_PS_wrong_32 : decode b_PS_wrong 32 = .ok (.iinc 2 1, 3) := by decide +kernel
theorem d_PS_wrong_35 : decode b_PS_wrong 35 = .ok (.goto (-31), 3) := by decide +kernel
theorem d_PS_wrong_38 : decode b_PS_wrong 38 = .ok (.iload_n 1, 1) := by decide +kernel
theorem d_PS_wrong_39 : decode b_PS_wrong 39 = .ok (.ireturn, 1) := by decide +kernel
theorem d_PS_wrongMeetings_0 : decode b_PS_wrongMeetings 0 = .ok (.iconst 0, 1) := by decide +kernel
theorem d_PS_wrongMeetings_1 : decode b_PS_wrongMeetings 1 = .ok (.istore_n 1, 1) := by decide +kernel
theorem d_PS_wrongMeetings_2 : decode b_PS_wrongMeetings 2 = .ok (.iconst 0, 1) := by decide +kernel
theorem d_PS_wrongMeetings_3 : decode b_PS_wrongMeetings 3 = .ok (.istore_n 2, 1) := by decide +kernel
theorem d_PS_wrongMeetings_4 : decode b_PS_wrongMeetings 4 = .ok (.iload_n 2, 1) := by decide +kernel
theorem d_PS_wrongMeetings_5 : decode b_PS_wrongMeetings 5 = .ok (.bipush 24, 2) := by decide +kernel
theorem d_PS_wrongMeetings_7 : decode b_PS_wrongMeetings 7 = .ok (.if_icmp .ge 59, 3) := by decide +kernel
theorem d_PS_wrongMeetings_10 : decode b_PS_wrongMeetings 10 = .ok (.iload_n 2, 1) := by decide +kernel
theorem d_PS_wrongMeetings_11 : decode b_PS_wrongMeetings 11 = .ok (.iconst 1, 1) := by decide +kernel
theorem d_PS_wrongMeetings_12 : decode b_PS_wrongMeetings 12 = .ok (.iadd, 1) := by decide +kernel
theorem d_PS_wrongMeetings_13 : decode b_PS_wrongMeetings 13 = .ok (.istore_n 3, 1) := by decide +kernel
theorem d_PS_wrongMeetings_14 : decode b_PS_wrongMeetings 14 = .ok (.iload_n 3, 1) := by decide +kernel
theorem d_PS_wrongMeetings_15 : decode b_PS_wrongMeetings 15 = .ok (.bipush 24, 2) := by decide +kernel
theorem d_PS_wrongMeetings_17 : decode b_PS_wrongMeetings 17 = .ok (.if_icmp .ge 43, 3) := by decide +kernel
theorem d_PS_wrongMeetings_20 : decode b_PS_wrongMeetings 20 = .ok (.aload_n 0, 1) := by decide +kernel
theorem d_PS_wrongMeetings_21 : decode b_PS_wrongMeetings 21 = .ok (.getfield 48, 3) := by decide +kernel
theorem d_PS_wrongMeetings_24 : decode b_PS_wrongMeetings 24 = .ok (.iload_n 2, 1) := by decide +kernel
theorem d_PS_wrongMeetings_25 : decode b_PS_wrongMeetings 25 = .ok (.invokestatic 62, 3) := by decide +kernel
theorem d_PS_wrongMeetings_28 : decode b_PS_wrongMeetings 28 = .ok (.ifCond .eq 26, 3) := by decide +kernel
theorem d_PS_wrongMeetings_54 : decode b_PS_wrongMeetings 54 = .ok (.iinc 3 1, 3) := by decide +kernel
theorem d_PS_wrongMeetings_57 : decode b_PS_wrongMeetings 57 = .ok (.goto (-43), 3) := by decide +kernel
theorem d_PS_wrongMeetings_60 : decode b_PS_wrongMeetings 60 = .ok (.iinc 2 1, 3) := by decide +kernel
theorem d_PS_wrongMeetings_63 : decode b_PS_wrongMeetings 63 = .ok (.goto (-59), 3) := by decide +kernel
theorem d_PS_wrongMeetings_66 : decode b_PS_wrongMeetings 66 = .ok (.iload_n 1, 1) := by decide +kernel
theorem d_PS_wrongMeetings_67 : decode b_PS_wrongMeetings 67 = .ok (.ireturn, 1) := by decide +kernel
