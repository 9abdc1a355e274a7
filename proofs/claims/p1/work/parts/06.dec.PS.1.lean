theorem d_PS_init_0 : decode b_PS_init 0 = .ok (.aload_n 0, 1) := by decide +kernel
theorem d_PS_init_1 : decode b_PS_init 1 = .ok (.invokespecial 3, 3) := by decide +kernel
theorem d_PS_init_4 : decode b_PS_init 4 = .ok (.aload_n 0, 1) := by decide +kernel
theorem d_PS_init_5 : decode b_PS_init 5 = .ok (.bipush 24, 2) := by decide +kernel
theorem d_PS_init_7 : decode b_PS_init 7 = .ok (.newarray .int, 2) := by decide +kernel
theorem d_PS_init_9 : decode b_PS_init 9 = .ok (.putfield 9, 3) := by decide +kernel
theorem d_PS_init_12 : decode b_PS_init 12 = .ok (.aload_n 0, 1) := by decide +kernel
theorem d_PS_init_13 : decode b_PS_init 13 = .ok (.bipush 24, 2) := by decide +kernel
theorem d_PS_init_15 : decode b_PS_init 15 = .ok (.newarray .int, 2) := by decide +kernel
theorem d_PS_init_17 : decode b_PS_init 17 = .ok (.putfield 13, 3) := by decide +kernel
theorem d_PS_init_20 : decode b_PS_init 20 = .ok (.aload_n 0, 1) := by decide +kernel
theorem d_PS_init_21 : decode b_PS_init 21 = .ok (.new 16, 3) := by decide +kernel
theorem d_PS_init_24 : decode b_PS_init 24 = .ok (.dup, 1) := by decide +kernel
theorem d_PS_init_25 : decode b_PS_init 25 = .ok (.invokespecial 18, 3) := by decide +kernel
theorem d_PS_init_28 : decode b_PS_init 28 = .ok (.putfield 19, 3) := by decide +kernel
theorem d_PS_init_31 : decode b_PS_init 31 = .ok (.aload_n 0, 1) := by decide +kernel
theorem d_PS_init_32 : decode b_PS_init 32 = .ok (.new 23, 3) := by decide +kernel
theorem d_PS_init_35 : decode b_PS_init 35 = .ok (.dup, 1) := by decide +kernel
theorem d_PS_init_36 : decode b_PS_init 36 = .ok (.invokespecial 25, 3) := by decide +kernel
theorem d_PS_init_39 : decode b_PS_init 39 = .ok (.putfield 26, 3) := by decide +kernel
theorem d_PS_init_42 : decode b_PS_init 42 = .ok (.aload_n 0, 1) := by decide +kernel
theorem d_PS_init_43 : decode b_PS_init 43 = .ok (.new 30, 3) := by decide +kernel
theorem d_PS_init_46 : decode b_PS_init 46 = .ok (.dup, 1) := by decide +kernel
theorem d_PS_init_47 : decode b_PS_init 47 = .ok (.invokespecial 32, 3) := by decide +kernel
theorem d_PS_init_50 : decode b_PS_init 50 = .ok (.putfield 33, 3) := by decide +kernel
theorem d_PS_init_53 : decode b_PS_init 53 = .ok (.aload_n 0, 1) := by decide +kernel
theorem d_PS_init_54 : decode b_PS_init 54 = .ok (.new 37, 3) := by decide +kernel
theorem d_PS_init_57 : decode b_PS_init 57 = .ok (.dup, 1) := by decide +kernel
theorem d_PS_init_58 : decode b_PS_init 58 = .ok (.invokespecial 39, 3) := by decide +kernel
theorem d_PS_init_61 : decode b_PS_init 61 = .ok (.putfield 40, 3) := by decide +kernel
theorem d_PS_init_64 : decode b_PS_init 64 = .ok (.aload_n 0, 1) := by decide +kernel
theorem d_PS_init_65 : decode b_PS_init 65 = .ok (.iconst 0, 1) := by decide +kernel
theorem d_PS_init_66 : decode b_PS_init 66 = .ok (.putfield 44, 3) := by decide +kernel
theorem d_PS_init_69 : decode b_PS_init 69 = .ok (.aload_n 0, 1) := by decide +kernel
theorem d_PS_init_70 : decode b_PS_init 70 = .ok (.iconst 0, 1) := by decide +kernel
theorem d_PS_init_71 : decode b_PS_init 71 = .ok (.putfield 48, 3) := by decide +kernel
theorem d_PS_init_74 : decode b_PS_init 74 = .ok (.return_, 1) := by decide +kernel
theorem d_PS_around_0 : decode b_PS_around 0 = .ok (.iload_n 1, 1) := by decide +kernel
theorem d_PS_around_1 : decode b_PS_around 1 = .ok (.aload_n 0, 1) := by decide +kernel
theorem d_PS_around_2 : decode b_PS_around 2 = .ok (.getfield 44, 3) := by decide +kernel
theorem d_PS_around_5 : decode b_PS_around 5 = .ok (.iconst (-1), 1) := by decide +kernel
theorem d_PS_around_6 : decode b_PS_around 6 = .ok (.ixor, 1) := by decide +kernel
theorem d_PS_around_7 : decode b_PS_around 7 = .ok (.iand, 1) := by decide +kernel
theorem d_PS_around_8 : decode b_PS_around 8 = .ok (.ifCond .eq 13, 3) := by decide +kernel
theorem d_PS_around_11 : decode b_PS_around 11 = .ok (.new 80, 3) := by decide +kernel
theorem d_PS_around_14 : decode b_PS_around 14 = .ok (.dup, 1) := by decide +kernel
theorem d_PS_around_15 : decode b_PS_around 15 = .ok (.ldc 82, 2) := by decide +kernel
theorem d_PS_around_17 : decode b_PS_around 17 = .ok (.invokespecial 84, 3) := by decide +kernel
theorem d_PS_around_20 : decode b_PS_around 20 = .ok (.athrow, 1) := by decide +kernel
theorem d_PS_around_21 : decode b_PS_around 21 = .ok (.aload_n 0, 1) := by decide +kernel
theorem d_PS_around_22 : decode b_PS_around 22 = .ok (.aload_n 0, 1) := by decide +kernel
theorem d_PS_around_23 : decode b_PS_around 23 = .ok (.getfield 48, 3) := by decide +kernel
theorem d_PS_around_26 : decode b_PS_around 26 = .ok (.invokevirtual 149, 3) := by decide +kernel
theorem d_PS_around_29 : decode b_PS_around 29 = .ok (.iconst 0, 1) := by decide +kernel
theorem d_PS_around_30 : decode b_PS_around 30 = .ok (.istore_n 2, 1) := by decide +kernel
theorem d_PS_around_31 : decode b_PS_around 31 = .ok (.iload_n 2, 1) := by decide +kernel
theorem d_PS_around_32 : decode b_PS_around 32 = .ok (.bipush 10, 2) := by decide +kernel
theorem d_PS_around_34 : decode b_PS_around 34 = .ok (.if_icmp .ge 27, 3) := by decide +kernel
theorem d_PS_around_37 : decode b_PS_around 37 = .ok (.iload_n 1, 1) := by decide +kernel
theorem d_PS_around_38 : decode b_PS_around 38 = .ok (.iload_n 2, 1) := by decide +kernel
theorem d_PS_around_39 : decode b_PS_around 39 = .ok (.invokestatic 62, 3) := by decide +kernel
theorem d_PS_around_42 : decode b_PS_around 42 = .ok (.ifCond .eq 13, 3) := by decide +kernel
theorem d_PS_around_55 : decode b_PS_around 55 = .ok (.iinc 2 1, 3) := by decide +kernel
theorem d_PS_around_58 : decode b_PS_around 58 = .ok (.goto (-27), 3) := by decide +kernel
theorem d_PS_around_61 : decode b_PS_around 61 = .ok (.aload_n 0, 1) := by decide +kernel
theorem d_PS_around_62 : decode b_PS_around 62 = .ok (.getfield 26, 3) := by decide +kernel
theorem d_PS_around_65 : decode b_PS_around 65 = .ok (.aload_n 0, 1) := by decide +kernel
theorem d_PS_around_66 : decode b_PS_around 66 = .ok (.getfield 19, 3) := by decide +kernel
theorem d_PS_around_69 : decode b_PS_around 69 = .ok (.invokevirtual 157, 3) := by decide +kernel
theorem d_PS_around_72 : decode b_PS_around 72 = .ok (.ireturn, 1) := by decide +kernel
theorem d_PS_at_0 : decode b_PS_at 0 = .ok (.iload_n 1, 1) := by decide +kernel
theorem d_PS_at_1 : decode b_PS_at 1 = .ok (.invokestatic 51, 3) := by decide +kernel
theorem d_PS_at_4 : decode b_PS_at 4 = .ok (.ifCond .eq 12, 3) := by decide +kernel
theorem d_PS_at_7 : decode b_PS_at 7 = .ok (.iload_n 2, 1) := by decide +kernel
theorem d_PS_at_8 : decode b_PS_at 8 = .ok (.ifCond .eq 18, 3) := by decide +kernel
theorem d_PS_at_11 : decode b_PS_at 11 = .ok (.iload_n 2, 1) := by decide +kernel
theorem d_PS_at_12 : decode b_PS_at 12 = .ok (.iconst 1, 1) := by decide +kernel
theorem d_PS_at_13 : decode b_PS_at 13 = .ok (.if_icmp .eq 13, 3) := by decide +kernel
theorem d_PS_at_16 : decode b_PS_at 16 = .ok (.new 55, 3) := by decide +kernel
theorem d_PS_at_19 : decode b_PS_at 19 = .ok (.dup, 1) := by decide +kernel
theorem d_PS_at_20 : decode b_PS_at 20 = .ok (.ldc 184, 2) := by decide +kernel
theorem d_PS_at_22 : decode b_PS_at 22 = .ok (.invokespecial 59, 3) := by decide +kernel
theorem d_PS_at_25 : decode b_PS_at 25 = .ok (.athrow, 1) := by decide +kernel
theorem d_PS_at_26 : decode b_PS_at 26 = .ok (.iload_n 2, 1) := by decide +kernel
theorem d_PS_at_27 : decode b_PS_at 27 = .ok (.ifCond .ne 14, 3) := by decide +kernel
theorem d_PS_at_30 : decode b_PS_at 30 = .ok (.aload_n 0, 1) := by decide +kernel
theorem d_PS_at_31 : decode b_PS_at 31 = .ok (.getfield 40, 3) := by decide +kernel
theorem d_PS_at_34 : decode b_PS_at 34 = .ok (.iload_n 1, 1) := by decide +kernel
theorem d_PS_at_35 : decode b_PS_at 35 = .ok (.invokevirtual 186, 3) := by decide +kernel
theorem d_PS_at_38 : decode b_PS_at 38 = .ok (.goto 11, 3) := by decide +kernel
theorem d_PS_at_41 : decode b_PS_at 41 = .ok (.aload_n 0, 1) := by decide +kernel
theorem d_PS_at_42 : decode b_PS_at 42 = .ok (.getfield 40, 3) := by decide +kernel
theorem d_PS_at_45 : decode b_PS_at 45 = .ok (.iload_n 1, 1) := by decide +kernel
theorem d_PS_at_46 : decode b_PS_at 46 = .ok (.invokevirtual 189, 3) := by decide +kernel
theorem d_PS_at_49 : decode b_PS_at 49 = .ok (.ireturn, 1) := by decide +kernel
theorem d_PS_box_0 : decode b_PS_box 0 = .ok (.aload_n 0, 1) := by decide +kernel
theorem d_PS_box_1 : decode b_PS_box 1 = .ok (.getfield 44, 3) := by decide +kernel
theorem d_PS_box_4 : decode b_PS_box 4 = .ok (.ifCond .ne 7, 3) := by decide +kernel
theorem d_PS_box_7 : decode b_PS_box 7 = .ok (.iconst 0, 1) := by decide +kernel
theorem d_PS_box_8 : decode b_PS_box 8 = .ok (.goto 18, 3) := by decide +kernel
theorem d_PS_box_26 : decode b_PS_box 26 = .ok (.ireturn, 1) := by decide +kernel
theorem d_PS_bridge_0 : decode b_PS_bridge 0 = .ok (.aload_n 0, 1) := by decide +kernel
theorem d_PS_bridge_1 : decode b_PS_bridge 1 = .ok (.iload_n 1, 1) := by decide +kernel
theorem d_PS_bridge_2 : decode b_PS_bridge 2 = .ok (.invokevirtual 108, 3) := by decide +kernel
theorem d_PS_bridge_5 : decode b_PS_bridge 5 = .ok (.ifCond .ne 13, 3) := by decide +kernel
theorem d_PS_bridge_8 : decode b_PS_bridge 8 = .ok (.new 80, 3) := by decide +kernel
theorem d_PS_bridge_11 : decode b_PS_bridge 11 = .ok (.dup, 1) := by decide +kernel
theorem d_PS_bridge_12 : decode b_PS_bridge 12 = .ok (.ldc 111, 2) := by decide +kernel
theorem d_PS_bridge_14 : decode b_PS_bridge 14 = .ok (.invokespecial 84, 3) := by decide +kernel
theorem d_PS_bridge_17 : decode b_PS_bridge 17 = .ok (.athrow, 1) := by decide +kernel
theorem d_PS_canDraw_0 : decode b_PS_canDraw 0 = .ok (.aload_n 0, 1) := by decide +kernel
theorem d_PS_canDraw_1 : decode b_PS_canDraw 1 = .ok (.iload_n 1, 1) := by decide +kernel
theorem d_PS_canDraw_2 : decode b_PS_canDraw 2 = .ok (.invokevirtual 149, 3) := by decide +kernel
theorem d_PS_canDraw_5 : decode b_PS_canDraw 5 = .ok (.aload_n 0, 1) := by decide +kernel
theorem d_PS_canDraw_6 : decode b_PS_canDraw 6 = .ok (.getfield 26, 3) := by decide +kernel
theorem d_PS_canDraw_9 : decode b_PS_canDraw 9 = .ok (.aload_n 0, 1) := by decide +kernel
theorem d_PS_canDraw_10 : decode b_PS_canDraw 10 = .ok (.getfield 19, 3) := by decide +kernel
theorem d_PS_canDraw_13 : decode b_PS_canDraw 13 = .ok (.invokevirtual 157, 3) := by decide +kernel
theorem d_PS_canDraw_16 : decode b_PS_canDraw 16 = .ok (.ireturn, 1) := by decide +kernel
theorem d_PS_colour_0 : decode b_PS_colour 0 = .ok (.aload_n 0, 1) := by decide +kernel
theorem d_PS_colour_1 : decode b_PS_colour 1 = .ok (.iload_n 1, 1) := by decide +kernel
theorem d_PS_colour_2 : decode b_PS_colour 2 = .ok (.invokevirtual 77, 3) := by decide +kernel
theorem d_PS_colour_5 : decode b_PS_colour 5 = .ok (.ifCond .ne 13, 3) := by decide +kernel
theorem d_PS_colour_8 : decode b_PS_colour 8 = .ok (.new 80, 3) := by decide +kernel
theorem d_PS_colour_11 : decode b_PS_colour 11 = .ok (.dup, 1) := by decide +kernel
theorem d_PS_colour_12 : decode b_PS_colour 12 = .ok (.ldc 113, 2) := by decide +kernel
theorem d_PS_colour_14 : decode b_PS_colour 14 = .ok (.invokespecial 84, 3) := by decide +kernel
theorem d_PS_colour_17 : decode b_PS_colour 17 = .ok (.athrow, 1) := by decide +kernel
theorem d_PS_colours_0 : decode b_PS_colours 0 = .ok (.aload_n 0, 1) := by decide +kernel
theorem d_PS_colours_1 : decode b_PS_colours 1 = .ok (.aload_n 0, 1) := by decide +kernel
theorem d_PS_colours_2 : decode b_PS_colours 2 = .ok (.getfield 48, 3) := by decide +kernel
theorem d_PS_colours_5 : decode b_PS_colours 5 = .ok (.invokevirtual 149, 3) := by decide +kernel
theorem d_PS_colours_8 : decode b_PS_colours 8 = .ok (.aload_n 0, 1) := by decide +kernel
theorem d_PS_colours_9 : decode b_PS_colours 9 = .ok (.getfield 33, 3) := by decide +kernel
theorem d_PS_colours_12 : decode b_PS_colours 12 = .ok (.aload_n 0, 1) := by decide +kernel
theorem d_PS_colours_13 : decode b_PS_colours 13 = .ok (.getfield 19, 3) := by decide +kernel
theorem d_PS_colours_16 : decode b_PS_colours 16 = .ok (.aload_n 0, 1) := by decide +kernel
theorem d_PS_colours_17 : decode b_PS_colours 17 = .ok (.getfield 44, 3) := by decide +kernel
theorem d_PS_colours_20 : decode b_PS_colours 20 = .ok (.invokevirtual 168, 3) := by decide +kernel
theorem d_PS_colours_23 : decode b_PS_colours 23 = .ok (.ireturn, 1) := by decide +kernel
theorem d_PS_corner_0 : decode b_PS_corner 0 = .ok (.aload_n 0, 1) := by decide +kernel
theorem d_PS_corner_1 : decode b_PS_corner 1 = .ok (.invokevirtual 123, 3) := by decide +kernel
theorem d_PS_corner_4 : decode b_PS_corner 4 = .ok (.istore_n 2, 1) := by decide +kernel
theorem d_PS_corner_5 : decode b_PS_corner 5 = .ok (.iload_n 2, 1) := by decide +kernel
theorem d_PS_corner_6 : decode b_PS_corner 6 = .ok (.ifCond .ne 13, 3) := by decide +kernel
theorem d_PS_corner_9 : decode b_PS_corner 9 = .ok (.new 66, 3) := by decide +kernel
theorem d_PS_corner_12 : decode b_PS_corner 12 = .ok (.dup, 1) := by decide +kernel
theorem d_PS_corner_13 : decode b_PS_corner 13 = .ok (.ldc 129, 2) := by decide +kernel
theorem d_PS_corner_15 : decode b_PS_corner 15 = .ok (.invokespecial 70, 3) := by decide +kernel
theorem d_PS_corner_18 : decode b_PS_corner 18 = .ok (.athrow, 1) := by decide +kernel
theorem d_PS_could_0 : decode b_PS_could 0 = .ok (.aload_n 0, 1) := by decide +kernel
theorem d_PS_could_1 : decode b_PS_could 1 = .ok (.iload_n 1, 1) := by decide +kernel
theorem d_PS_could_2 : decode b_PS_could 2 = .ok (.invokevirtual 77, 3) := by decide +kernel
theorem d_PS_could_5 : decode b_PS_could 5 = .ok (.ifCond .eq 11, 3) := by decide +kernel
theorem d_PS_could_16 : decode b_PS_could 16 = .ok (.new 80, 3) := by decide +kernel
theorem d_PS_could_19 : decode b_PS_could 19 = .ok (.dup, 1) := by decide +kernel
theorem d_PS_could_20 : decode b_PS_could 20 = .ok (.ldc 82, 2) := by decide +kernel
theorem d_PS_could_22 : decode b_PS_could 22 = .ok (.invokespecial 84, 3) := by decide +kernel
theorem d_PS_could_25 : decode b_PS_could 25 = .ok (.athrow, 1) := by decide +kernel
theorem d_PS_countPieces_0 : decode b_PS_countPieces 0 = .ok (.aload_n 0, 1) := by decide +kernel
theorem d_PS_countPieces_1 : decode b_PS_countPieces 1 = .ok (.iload_n 2, 1) := by decide +kernel
theorem d_PS_countPieces_2 : decode b_PS_countPieces 2 = .ok (.invokevirtual 149, 3) := by decide +kernel
theorem d_PS_countPieces_5 : decode b_PS_countPieces 5 = .ok (.iconst 0, 1) := by decide +kernel
theorem d_PS_countPieces_6 : decode b_PS_countPieces 6 = .ok (.istore_n 3, 1) := by decide +kernel
theorem d_PS_countPieces_7 : decode b_PS_countPieces 7 = .ok (.iconst 0, 1) := by decide +kernel
theorem d_PS_countPieces_8 : decode b_PS_countPieces 8 = .ok (.istore 4, 2) := by decide +kernel
theorem d_PS_countPieces_10 : decode b_PS_countPieces 10 = .ok (.iconst 0, 1) := by decide +kernel
theorem d_PS_countPieces_11 : decode b_PS_countPieces 11 = .ok (.istore 5, 2) := by decide +kernel
theorem d_PS_countPieces_13 : decode b_PS_countPieces 13 = .ok (.iload 5, 2) := by decide +kernel
theorem d_PS_countPieces_15 : decode b_PS_countPieces 15 = .ok (.bipush 10, 2) := by decide +kernel
theorem d_PS_countPieces_17 : decode b_PS_countPieces 17 = .ok (.if_icmp .ge 45, 3) := by decide +kernel
theorem d_PS_countPieces_20 : decode b_PS_countPieces 20 = .ok (.iload_n 1, 1) := by decide +kernel
theorem d_PS_countPieces_21 : decode b_PS_countPieces 21 = .ok (.iload 5, 2) := by decide +kernel
theorem d_PS_countPieces_23 : decode b_PS_countPieces 23 = .ok (.invokestatic 62, 3) := by decide +kernel
theorem d_PS_countPieces_26 : decode b_PS_countPieces 26 = .ok (.ifCond .eq 30, 3) := by decide +kernel
theorem d_PS_countPieces_56 : decode b_PS_countPieces 56 = .ok (.iinc 5 1, 3) := by decide +kernel
theorem d_PS_countPieces_59 : decode b_PS_countPieces 59 = .ok (.goto (-46), 3) := by decide +kernel
theorem d_PS_countPieces_62 : decode b_PS_countPieces 62 = .ok (.iload 4, 2) := by decide +kernel
theorem d_PS_countPieces_64 : decode b_PS_countPieces 64 = .ok (.ireturn, 1) := by decide +kernel
theorem d_PS_cut_0 : decode b_PS_cut 0 = .ok (.aload_n 0, 1) := by decide +kernel
theorem d_PS_cut_1 : decode b_PS_cut 1 = .ok (.iload_n 1, 1) := by decide +kernel
theorem d_PS_cut_2 : decode b_PS_cut 2 = .ok (.invokevirtual 108, 3) := by decide +kernel
theorem d_PS_cut_5 : decode b_PS_cut 5 = .ok (.ifCond .ne 13, 3) := by decide +kernel
theorem d_PS_cut_8 : decode b_PS_cut 8 = .ok (.new 80, 3) := by decide +kernel
theorem d_PS_cut_11 : decode b_PS_cut 11 = .ok (.dup, 1) := by decide +kernel
theorem d_PS_cut_12 : decode b_PS_cut 12 = .ok (.ldc 111, 2) := by decide +kernel
theorem d_PS_cut_14 : decode b_PS_cut 14 = .ok (.invokespecial 84, 3) := by decide +kernel
theorem d_PS_cut_17 : decode b_PS_cut 17 = .ok (.athrow, 1) := by decide +kernel
theorem d_PS_drawable_0 : decode b_PS_drawable 0 = .ok (.aload_n 0, 1) := by decide +kernel
theorem d_PS_drawable_1 : decode b_PS_drawable 1 = .ok (.aload_n 0, 1) := by decide +kernel
theorem d_PS_drawable_2 : decode b_PS_drawable 2 = .ok (.getfield 48, 3) := by decide +kernel
theorem d_PS_drawable_5 : decode b_PS_drawable 5 = .ok (.invokevirtual 120, 3) := by decide +kernel
theorem d_PS_drawable_8 : decode b_PS_drawable 8 = .ok (.ireturn, 1) := by decide +kernel
theorem d_PS_drop_0 : decode b_PS_drop 0 = .ok (.aload_n 0, 1) := by decide +kernel
theorem d_PS_drop_1 : decode b_PS_drop 1 = .ok (.iload_n 1, 1) := by decide +kernel
theorem d_PS_drop_2 : decode b_PS_drop 2 = .ok (.invokevirtual 77, 3) := by decide +kernel
theorem d_PS_drop_5 : decode b_PS_drop 5 = .ok (.ifCond .ne 13, 3) := by decide +kernel
theorem d_PS_drop_8 : decode b_PS_drop 8 = .ok (.new 80, 3) := by decide +kernel
theorem d_PS_drop_11 : decode b_PS_drop 11 = .ok (.dup, 1) := by decide +kernel
theorem d_PS_drop_12 : decode b_PS_drop 12 = .ok (.ldc 113, 2) := by decide +kernel
theorem d_PS_drop_14 : decode b_PS_drop 14 = .ok (.invokespecial 84, 3) := by decide +kernel
theorem d_PS_drop_17 : decode b_PS_drop 17 = .ok (.athrow, 1) := by decide +kernel
theorem d_PS_end_0 : decode b_PS_end 0 = .ok (.aload_n 0, 1) := by decide +kernel
theorem d_PS_end_1 : decode b_PS_end 1 = .ok (.iload_n 1, 1) := by decide +kernel
theorem d_PS_end_2 : decode b_PS_end 2 = .ok (.invokevirtual 108, 3) := by decide +kernel
theorem d_PS_end_5 : decode b_PS_end 5 = .ok (.ifCond .ne 13, 3) := by decide +kernel
theorem d_PS_end_8 : decode b_PS_end 8 = .ok (.new 80, 3) := by decide +kernel
theorem d_PS_end_11 : decode b_PS_end 11 = .ok (.dup, 1) := by decide +kernel
theorem d_PS_end_12 : decode b_PS_end 12 = .ok (.ldc 111, 2) := by decide +kernel
theorem d_PS_end_14 : decode b_PS_end 14 = .ok (.invokespecial 84, 3) := by decide +kernel
theorem d_PS_end_17 : decode b_PS_end 17 = .ok (.athrow, 1) := by decide +kernel
theorem d_PS_faces_0 : decode b_PS_faces 0 = .ok (.aload_n 0, 1) := by decide +kernel
theorem d_PS_faces_1 : decode b_PS_faces 1 = .ok (.aload_n 0, 1) := by decide +kernel
theorem d_PS_faces_2 : decode b_PS_faces 2 = .ok (.getfield 48, 3) := by decide +kernel
theorem d_PS_faces_5 : decode b_PS_faces 5 = .ok (.invokevirtual 120, 3) := by decide +kernel
theorem d_PS_faces_8 : decode b_PS_faces 8 = .ok (.ifCond .ne 13, 3) := by decide +kernel
theorem d_PS_faces_21 : decode b_PS_faces 21 = .ok (.aload_n 0, 1) := by decide +kernel
theorem d_PS_faces_22 : decode b_PS_faces 22 = .ok (.getfield 48, 3) := by decide +kernel
theorem d_PS_faces_25 : decode b_PS_faces 25 = .ok (.invokestatic 71, 3) := by decide +kernel
theorem d_PS_faces_28 : decode b_PS_faces 28 = .ok (.aload_n 0, 1) := by decide +kernel
theorem d_PS_faces_29 : decode b_PS_faces 29 = .ok (.getfield 44, 3) := by decide +kernel
theorem d_PS_faces_32 : decode b_PS_faces 32 = .ok (.invokestatic 71, 3) := by decide +kernel
theorem d_PS_faces_35 : decode b_PS_faces 35 = .ok (.isub, 1) := by decide +kernel
theorem d_PS_faces_36 : decode b_PS_faces 36 = .ok (.aload_n 0, 1) := by decide +kernel
theorem d_PS_faces_37 : decode b_PS_faces 37 = .ok (.aload_n 0, 1) := by decide +kernel
theorem d_PS_faces_38 : decode b_PS_faces 38 = .ok (.getfield 44, 3) := by decide +kernel
theorem d_PS_faces_41 : decode b_PS_faces 41 = .ok (.aload_n 0, 1) := by decide +kernel
theorem d_PS_faces_42 : decode b_PS_faces 42 = .ok (.getfield 48, 3) := by decide +kernel
theorem d_PS_faces_45 : decode b_PS_faces 45 = .ok (.invokevirtual 141, 3) := by decide +kernel
theorem d_PS_faces_48 : decode b_PS_faces 48 = .ok (.iadd, 1) := by decide +kernel
theorem d_PS_faces_49 : decode b_PS_faces 49 = .ok (.iconst 1, 1) := by decide +kernel
theorem d_PS_faces_50 : decode b_PS_faces 50 = .ok (.iadd, 1) := by decide +kernel
theorem d_PS_faces_51 : decode b_PS_faces 51 = .ok (.ireturn, 1) := by decide +kernel
theorem d_PS_flat_0 : decode b_PS_flat 0 = .ok (.aload_n 0, 1) := by decide +kernel
theorem d_PS_flat_1 : decode b_PS_flat 1 = .ok (.invokevirtual 181, 3) := by decide +kernel
theorem d_PS_flat_4 : decode b_PS_flat 4 = .ok (.ifCond .ne 14, 3) := by decide +kernel
theorem d_PS_flat_7 : decode b_PS_flat 7 = .ok (.aload_n 0, 1) := by decide +kernel
theorem d_PS_flat_8 : decode b_PS_flat 8 = .ok (.invokevirtual 202, 3) := by decide +kernel
theorem d_PS_flat_11 : decode b_PS_flat 11 = .ok (.ifCond .ne 7, 3) := by decide +kernel
theorem d_PS_flat_14 : decode b_PS_flat 14 = .ok (.iconst 1, 1) := by decide +kernel
theorem d_PS_flat_15 : decode b_PS_flat 15 = .ok (.goto 4, 3) := by decide +kernel
theorem d_PS_flat_19 : decode b_PS_flat 19 = .ok (.ireturn, 1) := by decide +kernel
theorem d_PS_forbiddenLines_0 : decode b_PS_forbiddenLines 0 = .ok (.aload_n 0, 1) := by decide +kernel
theorem d_PS_forbiddenLines_1 : decode b_PS_forbiddenLines 1 = .ok (.aload_n 0, 1) := by decide +kernel
theorem d_PS_forbiddenLines_2 : decode b_PS_forbiddenLines 2 = .ok (.getfield 48, 3) := by decide +kernel
theorem d_PS_forbiddenLines_5 : decode b_PS_forbiddenLines 5 = .ok (.invokevirtual 120, 3) := by decide +kernel
theorem d_PS_forbiddenLines_8 : decode b_PS_forbiddenLines 8 = .ok (.ifCond .eq 5, 3) := by decide +kernel
theorem d_PS_forbiddenLines_11 : decode b_PS_forbiddenLines 11 = .ok (.iconst 0, 1) := by decide +kernel
theorem d_PS_forbiddenLines_12 : decode b_PS_forbiddenLines 12 = .ok (.ireturn, 1) := by decide +kernel
theorem d_PS_has_0 : decode b_PS_has 0 = .ok (.iload_n 0, 1) := by decide +kernel
