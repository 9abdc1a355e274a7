theorem d_PS_init_0 : decode b_PS_init 0 = .ok (.aload_n 0, 1) := by decide +kernel
theorem d_PS_init_1 : decode b_PS_init 1 = .ok (.invokespecial 3, 3) := by decide +kernel
theorem d_PS_init_4 : decode b_PS_init 4 = .ok (.aload_n 0, 1) := by decide +kernel
theorem d_PS_init_5 : decode b_PS_init 5 = .ok (.bipush 24, 2) := by decide +kernel
theorem d_PS_init_7 : decode b_PS_init 7 = .ok (.newarray .int, 2) := by decide +kernel
theorem d_PS_init_9 : decode b_PS_init 9 = .ok (.putfield 9, 3) := by decide +kernel
theorem d_PS_init_12 : decode b_PS_init 12 = .ok (.aload_n 0, 1) := by decide +kernel
theorem d_PS_init_13 : decode b_PS_init 13 = .ok (.bipush 24, 2) := by decide +kernel
theorem d_PS_init_15 : decode b_PS_init 15 = .ok (.newarray .int, 2) := by decide +kernel
theorem d_PS_init_17 : decode b_PS_init 17 = .ok (.putfield 13, 3) := by decide +kernel
theorem d_PS_init_20 : decode b_PS_init 20 = .ok (.aload_n 0, 1) := by decide +kernel
theorem d_PS_init_21 : decode b_PS_init 21 = .ok (.new 16, 3) := by decide +kernel
theorem d_PS_init_24 : decode b_PS_init 24 = .ok (.dup, 1) := by decide +kernel
theorem d_PS_init_25 : decode b_PS_init 25 = .ok (.invokespecial 18, 3) := by decide +kernel
theorem d_PS_init_28 : decode b_PS_init 28 = .ok (.putfield 19, 3) := by decide +kernel
theorem d_PS_init_31 : decode b_PS_init 31 = .ok (.aload_n 0, 1) := by decide +kernel
theorem d_PS_init_32 : decode b_PS_init 32 = .ok (.new 23, 3) := by decide +kernel
theorem d_PS_init_35 : decode b_PS_init 35 = .ok (.dup, 1) := by decide +kernel
theorem d_PS_init_36 : decode b_PS_init 36 = .ok (.invokespecial 25, 3) := by decide +kernel
theorem d_PS_init_39 : decode b_PS_init 39 = .ok (.putfield 26, 3) := by decide +kernel
theorem d_PS_init_42 : decode b_PS_init 42 = .ok (.aload_n 0, 1) := by decide +kernel
theorem d_PS_init_43 : decode b_PS_init 43 = .ok (.new 30, 3) := by decide +kernel
theorem d_PS_init_46 : decode b_PS_init 46 = .ok (.dup, 1) := by decide +kernel
theorem d_PS_init_47 : decode b_PS_init 47 = .ok (.invokespecial 32, 3) := by decide +kernel
theorem d_PS_init_50 : decode b_PS_init 50 = .ok (.putfield 33, 3) := by decide +kernel
theorem d_PS_init_53 : decode b_PS_init 53 = .ok (.aload_n 0, 1) := by decide +kernel
theorem d_PS_init_54 : decode b_PS_init 54 = .ok (.new 37, 3) := by decide +kernel
theorem d_PS_init_57 : decode b_PS_init 57 = .ok (.dup, 1) := by decide +kernel
theorem d_PS_init_58 : decode b_PS_init 58 = .ok (.invokespecial 39, 3) := by decide +kernel
theorem d_PS_init_61 : decode b_PS_init 61 = .ok (.putfield 40, 3) := by decide +kernel
theorem d_PS_init_64 : decode b_PS_init 64 = .ok (.aload_n 0, 1) := by decide +kernel
theorem d_PS_init_65 : decode b_PS_init 65 = .ok (.iconst 0, 1) := by decide +kernel
theorem d_PS_init_66 : decode b_PS_init 66 = .ok (.putfield 44, 3) := by decide +kernel
theorem d_PS_init_69 : decode b_PS_init 69 = .ok (.aload_n 0, 1) := by decide +kernel
theorem d_PS_init_70 : decode b_PS_init 70 = .ok (.iconst 0, 1) := by decide +kernel
theorem d_PS_init_71 : decode b_PS_init 71 = .ok (.putfield 48, 3) := by decide +kernel
theorem d_PS_init_74 : decode b_PS_init 74 = .ok (.return_, 1) := by decide +kernel
theorem d_PS_box_0 : decode b_PS_box 0 = .ok (.aload_n 0, 1) := by decide +kernel
theorem d_PS_box_1 : decode b_PS_box 1 = .ok (.getfield 44, 3) := by decide +kernel
theorem d_PS_box_4 : decode b_PS_box 4 = .ok (.ifCond .ne 7, 3) := by decide +kernel
theorem d_PS_box_7 : decode b_PS_box 7 = .ok (.iconst 0, 1) := by decide +kernel
theorem d_PS_box_8 : decode b_PS_box 8 = .ok (.goto 18, 3) := by decide +kernel
theorem d_PS_box_26 : decode b_PS_box 26 = .ok (.ireturn, 1) := by decide +kernel
theorem d_PS_canDraw_0 : decode b_PS_canDraw 0 = .ok (.aload_n 0, 1) := by decide +kernel
theorem d_PS_canDraw_1 : decode b_PS_canDraw 1 = .ok (.iload_n 1, 1) := by decide +kernel
theorem d_PS_canDraw_2 : decode b_PS_canDraw 2 = .ok (.invokevirtual 149, 3) := by decide +kernel
theorem d_PS_canDraw_5 : decode b_PS_canDraw 5 = .ok (.aload_n 0, 1) := by decide +kernel
theorem d_PS_canDraw_6 : decode b_PS_canDraw 6 = .ok (.getfield 26, 3) := by decide +kernel
theorem d_PS_canDraw_9 : decode b_PS_canDraw 9 = .ok (.aload_n 0, 1) := by decide +kernel
theorem d_PS_canDraw_10 : decode b_PS_canDraw 10 = .ok (.getfield 19, 3) := by decide +kernel
theorem d_PS_canDraw_13 : decode b_PS_canDraw 13 = .ok (.invokevirtual 157, 3) := by decide +kernel
theorem d_PS_canDraw_16 : decode b_PS_canDraw 16 = .ok (.ireturn, 1) := by decide +kernel
theorem d_PS_colours_0 : decode b_PS_colours 0 = .ok (.aload_n 0, 1) := by decide +kernel
theorem d_PS_colours_1 : decode b_PS_colours 1 = .ok (.aload_n 0, 1) := by decide +kernel
theorem d_PS_colours_2 : decode b_PS_colours 2 = .ok (.getfield 48, 3) := by decide +kernel
theorem d_PS_colours_5 : decode b_PS_colours 5 = .ok (.invokevirtual 149, 3) := by decide +kernel
theorem d_PS_colours_8 : decode b_PS_colours 8 = .ok (.aload_n 0, 1) := by decide +kernel
theorem d_PS_colours_9 : decode b_PS_colours 9 = .ok (.getfield 33, 3) := by decide +kernel
theorem d_PS_colours_12 : decode b_PS_colours 12 = .ok (.aload_n 0, 1) := by decide +kernel
theorem d_PS_colours_13 : decode b_PS_colours 13 = .ok (.getfield 19, 3) := by decide +kernel
theorem d_PS_colours_16 : decode b_PS_colours 16 = .ok (.aload_n 0, 1) := by decide +kernel
theorem d_PS_colours_17 : decode b_PS_colours 17 = .ok (.getfield 44, 3) := by decide +kernel
theorem d_PS_colours_20 : decode b_PS_colours 20 = .ok (.invokevirtual 168, 3) := by decide +kernel
theorem d_PS_colours_23 : decode b_PS_colours 23 = .ok (.ireturn, 1) := by decide +kernel
theorem d_PS_countPieces_0 : decode b_PS_countPieces 0 = .ok (.aload_n 0, 1) := by decide +kernel
theorem d_PS_countPieces_1 : decode b_PS_countPieces 1 = .ok (.iload_n 2, 1) := by decide +kernel
theorem d_PS_countPieces_2 : decode b_PS_countPieces 2 = .ok (.invokevirtual 149, 3) := by decide +kernel
theorem d_PS_countPieces_5 : decode b_PS_countPieces 5 = .ok (.iconst 0, 1) := by decide +kernel
theorem d_PS_countPieces_6 : decode b_PS_countPieces 6 = .ok (.istore_n 3, 1) := by decide +kernel
theorem d_PS_countPieces_7 : decode b_PS_countPieces 7 = .ok (.iconst 0, 1) := by decide +kernel
theorem d_PS_countPieces_8 : decode b_PS_countPieces 8 = .ok (.istore 4, 2) := by decide +kernel
theorem d_PS_countPieces_10 : decode b_PS_countPieces 10 = .ok (.iconst 0, 1) := by decide +kernel
theorem d_PS_countPieces_11 : decode b_PS_countPieces 11 = .ok (.istore 5, 2) := by decide +kernel
theorem d_PS_countPieces_13 : decode b_PS_countPieces 13 = .ok (.iload 5, 2) := by decide +kernel
theorem d_PS_countPieces_15 : decode b_PS_countPieces 15 = .ok (.bipush 10, 2) := by decide +kernel
theorem d_PS_countPieces_17 : decode b_PS_countPieces 17 = .ok (.if_icmp .ge 45, 3) := by decide +kernel
theorem d_PS_countPieces_20 : decode b_PS_countPieces 20 = .ok (.iload_n 1, 1) := by decide +kernel
theorem d_PS_countPieces_21 : decode b_PS_countPieces 21 = .ok (.iload 5, 2) := by decide +kernel
theorem d_PS_countPieces_23 : decode b_PS_countPieces 23 = .ok (.invokestatic 62, 3) := by decide +kernel
theorem d_PS_countPieces_26 : decode b_PS_countPieces 26 = .ok (.ifCond .eq 30, 3) := by decide +kernel
theorem d_PS_countPieces_56 : decode b_PS_countPieces 56 = .ok (.iinc 5 1, 3) := by decide +kernel
theorem d_PS_countPieces_59 : decode b_PS_countPieces 59 = .ok (.goto (-46), 3) := by decide +kernel
theorem d_PS_countPieces_62 : decode b_PS_countPieces 62 = .ok (.iload 4, 2) := by decide +kernel
theorem d_PS_countPieces_64 : decode b_PS_countPieces 64 = .ok (.ireturn, 1) := by decide +kernel
theorem d_PS_drawable_0 : decode b_PS_drawable 0 = .ok (.aload_n 0, 1) := by decide +kernel
theorem d_PS_drawable_1 : decode b_PS_drawable 1 = .ok (.aload_n 0, 1) := by decide +kernel
theorem d_PS_drawable_2 : decode b_PS_drawable 2 = .ok (.getfield 48, 3) := by decide +kernel
theorem d_PS_drawable_5 : decode b_PS_drawable 5 = .ok (.invokevirtual 120, 3) := by decide +kernel
theorem d_PS_drawable_8 : decode b_PS_drawable 8 = .ok (.ireturn, 1) := by decide +kernel
theorem d_PS_flat_0 : decode b_PS_flat 0 = .ok (.aload_n 0, 1) := by decide +kernel
theorem d_PS_flat_1 : decode b_PS_flat 1 = .ok (.invokevirtual 181, 3) := by decide +kernel
theorem d_PS_flat_4 : decode b_PS_flat 4 = .ok (.ifCond .ne 14, 3) := by decide +kernel
theorem d_PS_flat_7 : decode b_PS_flat 7 = .ok (.aload_n 0, 1) := by decide +kernel
theorem d_PS_flat_8 : decode b_PS_flat 8 = .ok (.invokevirtual 202, 3) := by decide +kernel
theorem d_PS_flat_11 : decode b_PS_flat 11 = .ok (.ifCond .ne 7, 3) := by decide +kernel
theorem d_PS_flat_14 : decode b_PS_flat 14 = .ok (.iconst 1, 1) := by decide +kernel
theorem d_PS_flat_15 : decode b_PS_flat 15 = .ok (.goto 4, 3) := by decide +kernel
theorem d_PS_flat_19 : decode b_PS_flat 19 = .ok (.ireturn, 1) := by decide +kernel
theorem d_PS_forbiddenLines_0 : decode b_PS_forbiddenLines 0 = .ok (.aload_n 0, 1) := by decide +kernel
theorem d_PS_forbiddenLines_1 : decode b_PS_forbiddenLines 1 = .ok (.aload_n 0, 1) := by decide +kernel
theorem d_PS_forbiddenLines_2 : decode b_PS_forbiddenLines 2 = .ok (.getfield 48, 3) := by decide +kernel
theorem d_PS_forbiddenLines_5 : decode b_PS_forbiddenLines 5 = .ok (.invokevirtual 120, 3) := by decide +kernel
theorem d_PS_forbiddenLines_8 : decode b_PS_forbiddenLines 8 = .ok (.ifCond .eq 5, 3) := by decide +kernel
theorem d_PS_forbiddenLines_11 : decode b_PS_forbiddenLines 11 = .ok (.iconst 0, 1) := by decide +kernel
theorem d_PS_forbiddenLines_12 : decode b_PS_forbiddenLines 12 = .ok (.ireturn, 1) := by decide +kernel
theorem d_PS_has_0 : decode b_PS_has 0 = .ok (.iload_n 0, 1) := by decide +kernel
theorem d_PS_has_1 : decode b_PS_has 1 = .ok (.iload_n 1, 1) := by decide +kernel
theorem d_PS_has_2 : decode b_PS_has 2 = .ok (.ishr, 1) := by decide +kernel
theorem d_PS_has_3 : decode b_PS_has 3 = .ok (.iconst 1, 1) := by decide +kernel
theorem d_PS_has_4 : decode b_PS_has 4 = .ok (.iand, 1) := by decide +kernel
theorem d_PS_has_5 : decode b_PS_has 5 = .ok (.ifCond .eq 7, 3) := by decide +kernel
theorem d_PS_has_8 : decode b_PS_has 8 = .ok (.iconst 1, 1) := by decide +kernel
theorem d_PS_has_9 : decode b_PS_has 9 = .ok (.goto 4, 3) := by decide +kernel
theorem d_PS_has_12 : decode b_PS_has 12 = .ok (.iconst 0, 1) := by decide +kernel
theorem d_PS_has_13 : decode b_PS_has 13 = .ok (.ireturn, 1) := by decide +kernel
theorem d_PS_isNodeNumber_0 : decode b_PS_isNodeNumber 0 = .ok (.iload_n 0, 1) := by decide +kernel
theorem d_PS_isNodeNumber_1 : decode b_PS_isNodeNumber 1 = .ok (.ifCond .lt 13, 3) := by decide +kernel
theorem d_PS_isNodeNumber_4 : decode b_PS_isNodeNumber 4 = .ok (.iload_n 0, 1) := by decide +kernel
theorem d_PS_isNodeNumber_5 : decode b_PS_isNodeNumber 5 = .ok (.bipush 10, 2) := by decide +kernel
theorem d_PS_isNodeNumber_7 : decode b_PS_isNodeNumber 7 = .ok (.if_icmp .ge 7, 3) := by decide +kernel
theorem d_PS_isNodeNumber_10 : decode b_PS_isNodeNumber 10 = .ok (.iconst 1, 1) := by decide +kernel
theorem d_PS_isNodeNumber_11 : decode b_PS_isNodeNumber 11 = .ok (.goto 4, 3) := by decide +kernel
theorem d_PS_isNodeNumber_14 : decode b_PS_isNodeNumber 14 = .ok (.iconst 0, 1) := by decide +kernel
theorem d_PS_isNodeNumber_15 : decode b_PS_isNodeNumber 15 = .ok (.ireturn, 1) := by decide +kernel
theorem d_PS_lineIsThere_0 : decode b_PS_lineIsThere 0 = .ok (.iload_n 1, 1) := by decide +kernel
theorem d_PS_lineIsThere_1 : decode b_PS_lineIsThere 1 = .ok (.ifCond .lt 24, 3) := by decide +kernel
theorem d_PS_lineIsThere_4 : decode b_PS_lineIsThere 4 = .ok (.iload_n 1, 1) := by decide +kernel
theorem d_PS_lineIsThere_5 : decode b_PS_lineIsThere 5 = .ok (.bipush 24, 2) := by decide +kernel
theorem d_PS_lineIsThere_7 : decode b_PS_lineIsThere 7 = .ok (.if_icmp .ge 18, 3) := by decide +kernel
theorem d_PS_lineIsThere_10 : decode b_PS_lineIsThere 10 = .ok (.aload_n 0, 1) := by decide +kernel
theorem d_PS_lineIsThere_11 : decode b_PS_lineIsThere 11 = .ok (.getfield 48, 3) := by decide +kernel
theorem d_PS_lineIsThere_14 : decode b_PS_lineIsThere 14 = .ok (.iload_n 1, 1) := by decide +kernel
theorem d_PS_lineIsThere_15 : decode b_PS_lineIsThere 15 = .ok (.invokestatic 62, 3) := by decide +kernel
theorem d_PS_lineIsThere_18 : decode b_PS_lineIsThere 18 = .ok (.ifCond .eq 7, 3) := by decide +kernel
theorem d_PS_lineIsThere_21 : decode b_PS_lineIsThere 21 = .ok (.iconst 1, 1) := by decide +kernel
theorem d_PS_lineIsThere_22 : decode b_PS_lineIsThere 22 = .ok (.goto 4, 3) := by decide +kernel
theorem d_PS_lineIsThere_25 : decode b_PS_lineIsThere 25 = .ok (.iconst 0, 1) := by decide +kernel
theorem d_PS_lineIsThere_26 : decode b_PS_lineIsThere 26 = .ok (.ireturn, 1) := by decide +kernel
theorem d_PS_lines_0 : decode b_PS_lines 0 = .ok (.aload_n 0, 1) := by decide +kernel
theorem d_PS_lines_1 : decode b_PS_lines 1 = .ok (.getfield 48, 3) := by decide +kernel
theorem d_PS_lines_4 : decode b_PS_lines 4 = .ok (.ireturn, 1) := by decide +kernel
theorem d_PS_nodeIsThere_0 : decode b_PS_nodeIsThere 0 = .ok (.iload_n 1, 1) := by decide +kernel
theorem d_PS_nodeIsThere_1 : decode b_PS_nodeIsThere 1 = .ok (.invokestatic 51, 3) := by decide +kernel
theorem d_PS_nodeIsThere_4 : decode b_PS_nodeIsThere 4 = .ok (.ifCond .eq 18, 3) := by decide +kernel
theorem d_PS_nodeIsThere_7 : decode b_PS_nodeIsThere 7 = .ok (.aload_n 0, 1) := by decide +kernel
theorem d_PS_nodeIsThere_8 : decode b_PS_nodeIsThere 8 = .ok (.getfield 44, 3) := by decide +kernel
theorem d_PS_nodeIsThere_11 : decode b_PS_nodeIsThere 11 = .ok (.iload_n 1, 1) := by decide +kernel
theorem d_PS_nodeIsThere_12 : decode b_PS_nodeIsThere 12 = .ok (.invokestatic 62, 3) := by decide +kernel
theorem d_PS_nodeIsThere_15 : decode b_PS_nodeIsThere 15 = .ok (.ifCond .eq 7, 3) := by decide +kernel
theorem d_PS_nodeIsThere_18 : decode b_PS_nodeIsThere 18 = .ok (.iconst 1, 1) := by decide +kernel
theorem d_PS_nodeIsThere_19 : decode b_PS_nodeIsThere 19 = .ok (.goto 4, 3) := by decide +kernel
theorem d_PS_nodeIsThere_22 : decode b_PS_nodeIsThere 22 = .ok (.iconst 0, 1) := by decide +kernel
theorem d_PS_nodeIsThere_23 : decode b_PS_nodeIsThere 23 = .ok (.ireturn, 1) := by decide +kernel
theorem d_PS_nodes_0 : decode b_PS_nodes 0 = .ok (.aload_n 0, 1) := by decide +kernel
theorem d_PS_nodes_1 : decode b_PS_nodes 1 = .ok (.getfield 44, 3) := by decide +kernel
theorem d_PS_nodes_4 : decode b_PS_nodes 4 = .ok (.ireturn, 1) := by decide +kernel
theorem d_PS_pattern_0 : decode b_PS_pattern 0 = .ok (.aload_n 0, 1) := by decide +kernel
theorem d_PS_pattern_1 : decode b_PS_pattern 1 = .ok (.invokevirtual 123, 3) := by decide +kernel
theorem d_PS_pattern_4 : decode b_PS_pattern 4 = .ok (.ireturn, 1) := by decide +kernel
theorem d_PS_pieces_0 : decode b_PS_pieces 0 = .ok (.aload_n 0, 1) := by decide +kernel
theorem d_PS_pieces_1 : decode b_PS_pieces 1 = .ok (.aload_n 0, 1) := by decide +kernel
theorem d_PS_pieces_2 : decode b_PS_pieces 2 = .ok (.getfield 44, 3) := by decide +kernel
theorem d_PS_pieces_5 : decode b_PS_pieces 5 = .ok (.aload_n 0, 1) := by decide +kernel
theorem d_PS_pieces_6 : decode b_PS_pieces 6 = .ok (.getfield 48, 3) := by decide +kernel
theorem d_PS_pieces_9 : decode b_PS_pieces 9 = .ok (.invokevirtual 141, 3) := by decide +kernel
theorem d_PS_pieces_12 : decode b_PS_pieces 12 = .ok (.ireturn, 1) := by decide +kernel
theorem d_PS_room_0 : decode b_PS_room 0 = .ok (.iconst 0, 1) := by decide +kernel
theorem d_PS_room_1 : decode b_PS_room 1 = .ok (.istore_n 1, 1) := by decide +kernel
theorem d_PS_room_2 : decode b_PS_room 2 = .ok (.iconst 0, 1) := by decide +kernel
theorem d_PS_room_3 : decode b_PS_room 3 = .ok (.istore_n 2, 1) := by decide +kernel
theorem d_PS_room_4 : decode b_PS_room 4 = .ok (.iload_n 2, 1) := by decide +kernel
theorem d_PS_room_5 : decode b_PS_room 5 = .ok (.bipush 10, 2) := by decide +kernel
theorem d_PS_room_7 : decode b_PS_room 7 = .ok (.if_icmp .ge 68, 3) := by decide +kernel
theorem d_PS_room_10 : decode b_PS_room 10 = .ok (.iload_n 2, 1) := by decide +kernel
theorem d_PS_room_11 : decode b_PS_room 11 = .ok (.iconst 1, 1) := by decide +kernel
theorem d_PS_room_12 : decode b_PS_room 12 = .ok (.iadd, 1) := by decide +kernel
theorem d_PS_room_13 : decode b_PS_room 13 = .ok (.istore_n 3, 1) := by decide +kernel
theorem d_PS_room_14 : decode b_PS_room 14 = .ok (.iload_n 3, 1) := by decide +kernel
theorem d_PS_room_15 : decode b_PS_room 15 = .ok (.bipush 10, 2) := by decide +kernel
theorem d_PS_room_17 : decode b_PS_room 17 = .ok (.if_icmp .ge 52, 3) := by decide +kernel
theorem d_PS_room_20 : decode b_PS_room 20 = .ok (.aload_n 0, 1) := by decide +kernel
theorem d_PS_room_21 : decode b_PS_room 21 = .ok (.getfield 44, 3) := by decide +kernel
theorem d_PS_room_24 : decode b_PS_room 24 = .ok (.iload_n 2, 1) := by decide +kernel
theorem d_PS_room_25 : decode b_PS_room 25 = .ok (.invokestatic 62, 3) := by decide +kernel
theorem d_PS_room_28 : decode b_PS_room 28 = .ok (.ifCond .eq 35, 3) := by decide +kernel
theorem d_PS_room_63 : decode b_PS_room 63 = .ok (.iinc 3 1, 3) := by decide +kernel
theorem d_PS_room_66 : decode b_PS_room 66 = .ok (.goto (-52), 3) := by decide +kernel
theorem d_PS_room_69 : decode b_PS_room 69 = .ok (.iinc 2 1, 3) := by decide +kernel
theorem d_PS_room_72 : decode b_PS_room 72 = .ok (.goto (-68), 3) := by decide +kernel
theorem d_PS_room_75 : decode b_PS_room 75 = .ok (.iload_n 1, 1) := by decide +kernel
theorem d_PS_room_76 : decode b_PS_room 76 = .ok (.ireturn, 1) := by decide +kernel
theorem d_PS_spare_0 : decode b_PS_spare 0 = .ok (.aload_n 0, 1) := by decide +kernel
theorem d_PS_spare_1 : decode b_PS_spare 1 = .ok (.aload_n 0, 1) := by decide +kernel
theorem d_PS_spare_2 : decode b_PS_spare 2 = .ok (.getfield 48, 3) := by decide +kernel
theorem d_PS_spare_5 : decode b_PS_spare 5 = .ok (.invokevirtual 120, 3) := by decide +kernel
theorem d_PS_spare_8 : decode b_PS_spare 8 = .ok (.ifCond .eq 5, 3) := by decide +kernel
theorem d_PS_spare_11 : decode b_PS_spare 11 = .ok (.iconst 0, 1) := by decide +kernel
theorem d_PS_spare_12 : decode b_PS_spare 12 = .ok (.ireturn, 1) := by decide +kernel
theorem d_PS_spin_0 : decode b_PS_spin 0 = .ok (.aload_n 0, 1) := by decide +kernel
theorem d_PS_spin_1 : decode b_PS_spin 1 = .ok (.getfield 19, 3) := by decide +kernel
theorem d_PS_spin_4 : decode b_PS_spin 4 = .ok (.invokevirtual 211, 3) := by decide +kernel
theorem d_PS_spin_7 : decode b_PS_spin 7 = .ok (.iconst 0, 1) := by decide +kernel
theorem d_PS_spin_8 : decode b_PS_spin 8 = .ok (.istore_n 2, 1) := by decide +kernel
theorem d_PS_spin_9 : decode b_PS_spin 9 = .ok (.iload_n 2, 1) := by decide +kernel
theorem d_PS_spin_10 : decode b_PS_spin 10 = .ok (.bipush 24, 2) := by decide +kernel
theorem d_PS_spin_12 : decode b_PS_spin 12 = .ok (.if_icmp .ge 36, 3) := by decide +kernel
theorem d_PS_spin_15 : decode b_PS_spin 15 = .ok (.iload_n 1, 1) := by decide +kernel
theorem d_PS_spin_16 : decode b_PS_spin 16 = .ok (.iload_n 2, 1) := by decide +kernel
theorem d_PS_spin_17 : decode b_PS_spin 17 = .ok (.invokestatic 62, 3) := by decide +kernel
theorem d_PS_spin_20 : decode b_PS_spin 20 = .ok (.ifCond .eq 22, 3) := by decide +kernel
theorem d_PS_spin_42 : decode b_PS_spin 42 = .ok (.iinc 2 1, 3) := by decide +kernel
theorem d_PS_spin_45 : decode b_PS_spin 45 = .ok (.goto (-36), 3) := by decide +kernel
theorem d_PS_spin_48 : decode b_PS_spin 48 = .ok (.return_, 1) := by decide +kernel
theorem d_PS_witness_0 : decode b_PS_witness 0 = .ok (.aload_n 0, 1) := by decide +kernel
theorem d_PS_witness_1 : decode b_PS_witness 1 = .ok (.invokevirtual 123, 3) := by decide +kernel
theorem d_PS_witness_4 : decode b_PS_witness 4 = .ok (.istore_n 1, 1) := by decide +kernel
theorem d_PS_witness_5 : decode b_PS_witness 5 = .ok (.iload_n 1, 1) := by decide +kernel
theorem d_PS_witness_6 : decode b_PS_witness 6 = .ok (.ifCond .ne 5, 3) := by decide +kernel
theorem d_PS_witness_9 : decode b_PS_witness 9 = .ok (.iconst 0, 1) := by decide +kernel
theorem d_PS_witness_10 : decode b_PS_witness 10 = .ok (.ireturn, 1) := by decide +kernel
theorem d_PS_wrong_0 : decode b_PS_wrong 0 = .ok (.iconst 0, 1) := by decide +kernel
theorem d_PS_wrong_1 : decode b_PS_wrong 1 = .ok (.istore_n 1, 1) := by decide +kernel
theorem d_PS_wrong_2 : decode b_PS_wrong 2 = .ok (.iconst 0, 1) := by decide +kernel
theorem d_PS_wrong_3 : decode b_PS_wrong 3 = .ok (.istore_n 2, 1) := by decide +kernel
theorem d_PS_wrong_4 : decode b_PS_wrong 4 = .ok (.iload_n 2, 1) := by decide +kernel
theorem d_PS_wrong_5 : decode b_PS_wrong 5 = .ok (.bipush 10, 2) := by decide +kernel
theorem d_PS_wrong_7 : decode b_PS_wrong 7 = .ok (.if_icmp .ge 31, 3) := by decide +kernel
theorem d_PS_wrong_10 : decode b_PS_wrong 10 = .ok (.aload_n 0, 1) := by decide +kernel
theorem d_PS_wrong_11 : decode b_PS_wrong 11 = .ok (.getfield 44, 3) := by decide +kernel
theorem d_PS_wrong_14 : decode b_PS_wrong 14 = .ok (.iload_n 2, 1) := by decide +kernel
theorem d_PS_wrong_15 : decode b_PS_wrong 15 = .ok (.invokestatic 62, 3) := by decide +kernel
theorem d_PS_wrong_18 : decode b_PS_wrong 18 = .ok (.ifCond .eq 14, 3) := by decide +kernel
theorem d_PS_wrong_32 : decode b_PS_wrong 32 = .ok (.iinc 2 1, 3) := by decide +kernel
theorem d_PS_wrong_35 : decode b_PS_wrong 35 = .ok (.goto (-31), 3) := by decide +kernel
theorem d_PS_wrong_38 : decode b_PS_wrong 38 = .ok (.iload_n 1, 1) := by decide +kernel
theorem d_PS_wrong_39 : decode b_PS_wrong 39 = .ok (.ireturn, 1) := by decide +kernel
theorem d_PS_wrongMeetings_0 : decode b_PS_wrongMeetings 0 = .ok (.iconst 0, 1) := by decide +kernel
theorem d_PS_wrongMeetings_1 : decode b_PS_wrongMeetings 1 = .ok (.istore_n 1, 1) := by decide +kernel
theorem d_PS_wrongMeetings_2 : decode b_PS_wrongMeetings 2 = .ok (.iconst 0, 1) := by decide +kernel
theorem d_PS_wrongMeetings_3 : decode b_PS_wrongMeetings 3 = .ok (.istore_n 2, 1) := by decide +kernel
theorem d_PS_wrongMeetings_4 : decode b_PS_wrongMeetings 4 = .ok (.iload_n 2, 1) := by decide +kernel
theorem d_PS_wrongMeetings_5 : decode b_PS_wrongMeetings 5 = .ok (.bipush 24, 2) := by decide +kernel
theorem d_PS_wrongMeetings_7 : decode b_PS_wrongMeetings 7 = .ok (.if_icmp .ge 59, 3) := by decide +kernel
theorem d_PS_wrongMeetings_10 : decode b_PS_wrongMeetings 10 = .ok (.iload_n 2, 1) := by decide +kernel
theorem d_PS_wrongMeetings_11 : decode b_PS_wrongMeetings 11 = .ok (.iconst 1, 1) := by decide +kernel
theorem d_PS_wrongMeetings_12 : decode b_PS_wrongMeetings 12 = .ok (.iadd, 1) := by decide +kernel
theorem d_PS_wrongMeetings_13 : decode b_PS_wrongMeetings 13 = .ok (.istore_n 3, 1) := by decide +kernel
theorem d_PS_wrongMeetings_14 : decode b_PS_wrongMeetings 14 = .ok (.iload_n 3, 1) := by decide +kernel
theorem d_PS_wrongMeetings_15 : decode b_PS_wrongMeetings 15 = .ok (.bipush 24, 2) := by decide +kernel
theorem d_PS_wrongMeetings_17 : decode b_PS_wrongMeetings 17 = .ok (.if_icmp .ge 43, 3) := by decide +kernel
