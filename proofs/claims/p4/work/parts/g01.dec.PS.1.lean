theorem d_PS_around_0 : decode b_PS_around 0 = .ok (.iload_n 1, 1) := by decide +kernel
theorem d_PS_around_1 : decode b_PS_around 1 = .ok (.aload_n 0, 1) := by decide +kernel
theorem d_PS_around_2 : decode b_PS_around 2 = .ok (.getfield 44, 3) := by decide +kernel
theorem d_PS_around_5 : decode b_PS_around 5 = .ok (.iconst (-1), 1) := by decide +kernel
theorem d_PS_around_6 : decode b_PS_around 6 = .ok (.ixor, 1) := by decide +kernel
theorem d_PS_around_7 : decode b_PS_around 7 = .ok (.iand, 1) := by decide +kernel
theorem d_PS_around_8 : decode b_PS_around 8 = .ok (.ifCond .eq 13, 3) := by decide +kernel
theorem d_PS_around_11 : decode b_PS_around 11 = .ok (.new 80, 3) := by decide +kernel
theorem d_PS_around_14 : decode b_PS_around 14 = .ok (.dup, 1) := by decide +kernel
theorem d_PS_around_15 : decode b_PS_around 15 = .ok (.ldc 82, 2) := by decide +kernel
theorem d_PS_around_17 : decode b_PS_around 17 = .ok (.invokespecial 84, 3) := by decide +kernel
theorem d_PS_around_20 : decode b_PS_around 20 = .ok (.athrow, 1) := by decide +kernel
theorem d_PS_around_21 : decode b_PS_around 21 = .ok (.aload_n 0, 1) := by decide +kernel
theorem d_PS_around_22 : decode b_PS_around 22 = .ok (.aload_n 0, 1) := by decide +kernel
theorem d_PS_around_23 : decode b_PS_around 23 = .ok (.getfield 48, 3) := by decide +kernel
theorem d_PS_around_26 : decode b_PS_around 26 = .ok (.invokevirtual 149, 3) := by decide +kernel
theorem d_PS_around_29 : decode b_PS_around 29 = .ok (.iconst 0, 1) := by decide +kernel
theorem d_PS_around_30 : decode b_PS_around 30 = .ok (.istore_n 2, 1) := by decide +kernel
theorem d_PS_around_31 : decode b_PS_around 31 = .ok (.iload_n 2, 1) := by decide +kernel
theorem d_PS_around_32 : decode b_PS_around 32 = .ok (.bipush 10, 2) := by decide +kernel
theorem d_PS_around_34 : decode b_PS_around 34 = .ok (.if_icmp .ge 27, 3) := by decide +kernel
theorem d_PS_around_37 : decode b_PS_around 37 = .ok (.iload_n 1, 1) := by decide +kernel
theorem d_PS_around_38 : decode b_PS_around 38 = .ok (.iload_n 2, 1) := by decide +kernel
theorem d_PS_around_39 : decode b_PS_around 39 = .ok (.invokestatic 62, 3) := by decide +kernel
theorem d_PS_around_42 : decode b_PS_around 42 = .ok (.ifCond .eq 13, 3) := by decide +kernel
theorem d_PS_around_45 : decode b_PS_around 45 = .ok (.aload_n 0, 1) := by decide +kernel
theorem d_PS_around_46 : decode b_PS_around 46 = .ok (.getfield 19, 3) := by decide +kernel
theorem d_PS_around_49 : decode b_PS_around 49 = .ok (.bipush 10, 2) := by decide +kernel
theorem d_PS_around_51 : decode b_PS_around 51 = .ok (.iload_n 2, 1) := by decide +kernel
theorem d_PS_around_52 : decode b_PS_around 52 = .ok (.invokevirtual 153, 3) := by decide +kernel
theorem d_PS_around_55 : decode b_PS_around 55 = .ok (.iinc 2 1, 3) := by decide +kernel
theorem d_PS_around_58 : decode b_PS_around 58 = .ok (.goto (-27), 3) := by decide +kernel
theorem d_PS_around_61 : decode b_PS_around 61 = .ok (.aload_n 0, 1) := by decide +kernel
theorem d_PS_around_62 : decode b_PS_around 62 = .ok (.getfield 26, 3) := by decide +kernel
theorem d_PS_around_65 : decode b_PS_around 65 = .ok (.aload_n 0, 1) := by decide +kernel
theorem d_PS_around_66 : decode b_PS_around 66 = .ok (.getfield 19, 3) := by decide +kernel
theorem d_PS_around_69 : decode b_PS_around 69 = .ok (.invokevirtual 157, 3) := by decide +kernel
theorem d_PS_around_72 : decode b_PS_around 72 = .ok (.ireturn, 1) := by decide +kernel
theorem d_PS_at_0 : decode b_PS_at 0 = .ok (.iload_n 1, 1) := by decide +kernel
theorem d_PS_at_1 : decode b_PS_at 1 = .ok (.invokestatic 51, 3) := by decide +kernel
theorem d_PS_at_4 : decode b_PS_at 4 = .ok (.ifCond .eq 12, 3) := by decide +kernel
theorem d_PS_at_7 : decode b_PS_at 7 = .ok (.iload_n 2, 1) := by decide +kernel
theorem d_PS_at_8 : decode b_PS_at 8 = .ok (.ifCond .eq 18, 3) := by decide +kernel
theorem d_PS_at_11 : decode b_PS_at 11 = .ok (.iload_n 2, 1) := by decide +kernel
theorem d_PS_at_12 : decode b_PS_at 12 = .ok (.iconst 1, 1) := by decide +kernel
theorem d_PS_at_13 : decode b_PS_at 13 = .ok (.if_icmp .eq 13, 3) := by decide +kernel
theorem d_PS_at_16 : decode b_PS_at 16 = .ok (.new 55, 3) := by decide +kernel
theorem d_PS_at_19 : decode b_PS_at 19 = .ok (.dup, 1) := by decide +kernel
theorem d_PS_at_20 : decode b_PS_at 20 = .ok (.ldc 184, 2) := by decide +kernel
theorem d_PS_at_22 : decode b_PS_at 22 = .ok (.invokespecial 59, 3) := by decide +kernel
theorem d_PS_at_25 : decode b_PS_at 25 = .ok (.athrow, 1) := by decide +kernel
theorem d_PS_at_26 : decode b_PS_at 26 = .ok (.iload_n 2, 1) := by decide +kernel
theorem d_PS_at_27 : decode b_PS_at 27 = .ok (.ifCond .ne 14, 3) := by decide +kernel
theorem d_PS_at_30 : decode b_PS_at 30 = .ok (.aload_n 0, 1) := by decide +kernel
theorem d_PS_at_31 : decode b_PS_at 31 = .ok (.getfield 40, 3) := by decide +kernel
theorem d_PS_at_34 : decode b_PS_at 34 = .ok (.iload_n 1, 1) := by decide +kernel
theorem d_PS_at_35 : decode b_PS_at 35 = .ok (.invokevirtual 186, 3) := by decide +kernel
theorem d_PS_at_38 : decode b_PS_at 38 = .ok (.goto 11, 3) := by decide +kernel
theorem d_PS_at_41 : decode b_PS_at 41 = .ok (.aload_n 0, 1) := by decide +kernel
theorem d_PS_at_42 : decode b_PS_at 42 = .ok (.getfield 40, 3) := by decide +kernel
theorem d_PS_at_45 : decode b_PS_at 45 = .ok (.iload_n 1, 1) := by decide +kernel
theorem d_PS_at_46 : decode b_PS_at 46 = .ok (.invokevirtual 189, 3) := by decide +kernel
theorem d_PS_at_49 : decode b_PS_at 49 = .ok (.ireturn, 1) := by decide +kernel
theorem d_PS_box_0 : decode b_PS_box 0 = .ok (.aload_n 0, 1) := by decide +kernel
theorem d_PS_box_1 : decode b_PS_box 1 = .ok (.getfield 44, 3) := by decide +kernel
theorem d_PS_box_4 : decode b_PS_box 4 = .ok (.ifCond .ne 7, 3) := by decide +kernel
theorem d_PS_box_7 : decode b_PS_box 7 = .ok (.iconst 0, 1) := by decide +kernel
theorem d_PS_box_8 : decode b_PS_box 8 = .ok (.goto 18, 3) := by decide +kernel
theorem d_PS_box_11 : decode b_PS_box 11 = .ok (.iconst 2, 1) := by decide +kernel
theorem d_PS_box_12 : decode b_PS_box 12 = .ok (.aload_n 0, 1) := by decide +kernel
theorem d_PS_box_13 : decode b_PS_box 13 = .ok (.getfield 40, 3) := by decide +kernel
theorem d_PS_box_16 : decode b_PS_box 16 = .ok (.aload_n 0, 1) := by decide +kernel
theorem d_PS_box_17 : decode b_PS_box 17 = .ok (.getfield 44, 3) := by decide +kernel
theorem d_PS_box_20 : decode b_PS_box 20 = .ok (.invokevirtual 205, 3) := by decide +kernel
theorem d_PS_box_23 : decode b_PS_box 23 = .ok (.imul, 1) := by decide +kernel
theorem d_PS_box_24 : decode b_PS_box 24 = .ok (.iconst 1, 1) := by decide +kernel
theorem d_PS_box_25 : decode b_PS_box 25 = .ok (.iadd, 1) := by decide +kernel
theorem d_PS_box_26 : decode b_PS_box 26 = .ok (.ireturn, 1) := by decide +kernel
theorem d_PS_bridge_0 : decode b_PS_bridge 0 = .ok (.aload_n 0, 1) := by decide +kernel
theorem d_PS_bridge_1 : decode b_PS_bridge 1 = .ok (.iload_n 1, 1) := by decide +kernel
theorem d_PS_bridge_2 : decode b_PS_bridge 2 = .ok (.invokevirtual 108, 3) := by decide +kernel
theorem d_PS_bridge_5 : decode b_PS_bridge 5 = .ok (.ifCond .ne 13, 3) := by decide +kernel
theorem d_PS_bridge_8 : decode b_PS_bridge 8 = .ok (.new 80, 3) := by decide +kernel
theorem d_PS_bridge_11 : decode b_PS_bridge 11 = .ok (.dup, 1) := by decide +kernel
theorem d_PS_bridge_12 : decode b_PS_bridge 12 = .ok (.ldc 111, 2) := by decide +kernel
theorem d_PS_bridge_14 : decode b_PS_bridge 14 = .ok (.invokespecial 84, 3) := by decide +kernel
theorem d_PS_bridge_17 : decode b_PS_bridge 17 = .ok (.athrow, 1) := by decide +kernel
theorem d_PS_bridge_18 : decode b_PS_bridge 18 = .ok (.aload_n 0, 1) := by decide +kernel
theorem d_PS_bridge_19 : decode b_PS_bridge 19 = .ok (.aload_n 0, 1) := by decide +kernel
theorem d_PS_bridge_20 : decode b_PS_bridge 20 = .ok (.getfield 44, 3) := by decide +kernel
theorem d_PS_bridge_23 : decode b_PS_bridge 23 = .ok (.aload_n 0, 1) := by decide +kernel
theorem d_PS_bridge_24 : decode b_PS_bridge 24 = .ok (.getfield 48, 3) := by decide +kernel
theorem d_PS_bridge_27 : decode b_PS_bridge 27 = .ok (.iconst 1, 1) := by decide +kernel
theorem d_PS_bridge_28 : decode b_PS_bridge 28 = .ok (.iload_n 1, 1) := by decide +kernel
theorem d_PS_bridge_29 : decode b_PS_bridge 29 = .ok (.ishl, 1) := by decide +kernel
theorem d_PS_bridge_30 : decode b_PS_bridge 30 = .ok (.iconst (-1), 1) := by decide +kernel
theorem d_PS_bridge_31 : decode b_PS_bridge 31 = .ok (.ixor, 1) := by decide +kernel
theorem d_PS_bridge_32 : decode b_PS_bridge 32 = .ok (.iand, 1) := by decide +kernel
theorem d_PS_bridge_33 : decode b_PS_bridge 33 = .ok (.invokevirtual 141, 3) := by decide +kernel
theorem d_PS_bridge_36 : decode b_PS_bridge 36 = .ok (.aload_n 0, 1) := by decide +kernel
theorem d_PS_bridge_37 : decode b_PS_bridge 37 = .ok (.aload_n 0, 1) := by decide +kernel
theorem d_PS_bridge_38 : decode b_PS_bridge 38 = .ok (.getfield 44, 3) := by decide +kernel
theorem d_PS_bridge_41 : decode b_PS_bridge 41 = .ok (.aload_n 0, 1) := by decide +kernel
theorem d_PS_bridge_42 : decode b_PS_bridge 42 = .ok (.getfield 48, 3) := by decide +kernel
theorem d_PS_bridge_45 : decode b_PS_bridge 45 = .ok (.invokevirtual 141, 3) := by decide +kernel
theorem d_PS_bridge_48 : decode b_PS_bridge 48 = .ok (.if_icmp .le 7, 3) := by decide +kernel
theorem d_PS_bridge_51 : decode b_PS_bridge 51 = .ok (.iconst 1, 1) := by decide +kernel
theorem d_PS_bridge_52 : decode b_PS_bridge 52 = .ok (.goto 4, 3) := by decide +kernel
theorem d_PS_bridge_55 : decode b_PS_bridge 55 = .ok (.iconst 0, 1) := by decide +kernel
theorem d_PS_bridge_56 : decode b_PS_bridge 56 = .ok (.ireturn, 1) := by decide +kernel
theorem d_PS_canDraw_0 : decode b_PS_canDraw 0 = .ok (.aload_n 0, 1) := by decide +kernel
theorem d_PS_canDraw_1 : decode b_PS_canDraw 1 = .ok (.iload_n 1, 1) := by decide +kernel
theorem d_PS_canDraw_2 : decode b_PS_canDraw 2 = .ok (.invokevirtual 149, 3) := by decide +kernel
theorem d_PS_canDraw_5 : decode b_PS_canDraw 5 = .ok (.aload_n 0, 1) := by decide +kernel
theorem d_PS_canDraw_6 : decode b_PS_canDraw 6 = .ok (.getfield 26, 3) := by decide +kernel
theorem d_PS_canDraw_9 : decode b_PS_canDraw 9 = .ok (.aload_n 0, 1) := by decide +kernel
theorem d_PS_canDraw_10 : decode b_PS_canDraw 10 = .ok (.getfield 19, 3) := by decide +kernel
theorem d_PS_canDraw_13 : decode b_PS_canDraw 13 = .ok (.invokevirtual 157, 3) := by decide +kernel
theorem d_PS_canDraw_16 : decode b_PS_canDraw 16 = .ok (.ireturn, 1) := by decide +kernel
theorem d_PS_canDrawWith_0 : decode b_PS_canDrawWith 0 = .ok (.aload_n 0, 1) := by decide +kernel
theorem d_PS_canDrawWith_1 : decode b_PS_canDrawWith 1 = .ok (.aload_n 0, 1) := by decide +kernel
theorem d_PS_canDrawWith_2 : decode b_PS_canDrawWith 2 = .ok (.getfield 48, 3) := by decide +kernel
theorem d_PS_canDrawWith_5 : decode b_PS_canDrawWith 5 = .ok (.invokevirtual 149, 3) := by decide +kernel
theorem d_PS_canDrawWith_8 : decode b_PS_canDrawWith 8 = .ok (.aload_n 0, 1) := by decide +kernel
theorem d_PS_canDrawWith_9 : decode b_PS_canDrawWith 9 = .ok (.getfield 19, 3) := by decide +kernel
theorem d_PS_canDrawWith_12 : decode b_PS_canDrawWith 12 = .ok (.iload_n 1, 1) := by decide +kernel
theorem d_PS_canDrawWith_13 : decode b_PS_canDrawWith 13 = .ok (.iload_n 2, 1) := by decide +kernel
theorem d_PS_canDrawWith_14 : decode b_PS_canDrawWith 14 = .ok (.invokevirtual 153, 3) := by decide +kernel
theorem d_PS_canDrawWith_17 : decode b_PS_canDrawWith 17 = .ok (.aload_n 0, 1) := by decide +kernel
theorem d_PS_canDrawWith_18 : decode b_PS_canDrawWith 18 = .ok (.getfield 26, 3) := by decide +kernel
theorem d_PS_canDrawWith_21 : decode b_PS_canDrawWith 21 = .ok (.aload_n 0, 1) := by decide +kernel
theorem d_PS_canDrawWith_22 : decode b_PS_canDrawWith 22 = .ok (.getfield 19, 3) := by decide +kernel
theorem d_PS_canDrawWith_25 : decode b_PS_canDrawWith 25 = .ok (.invokevirtual 157, 3) := by decide +kernel
theorem d_PS_canDrawWith_28 : decode b_PS_canDrawWith 28 = .ok (.ireturn, 1) := by decide +kernel
theorem d_PS_colour_0 : decode b_PS_colour 0 = .ok (.aload_n 0, 1) := by decide +kernel
theorem d_PS_colour_1 : decode b_PS_colour 1 = .ok (.iload_n 1, 1) := by decide +kernel
theorem d_PS_colour_2 : decode b_PS_colour 2 = .ok (.invokevirtual 77, 3) := by decide +kernel
theorem d_PS_colour_5 : decode b_PS_colour 5 = .ok (.ifCond .ne 13, 3) := by decide +kernel
theorem d_PS_colour_8 : decode b_PS_colour 8 = .ok (.new 80, 3) := by decide +kernel
theorem d_PS_colour_11 : decode b_PS_colour 11 = .ok (.dup, 1) := by decide +kernel
theorem d_PS_colour_12 : decode b_PS_colour 12 = .ok (.ldc 113, 2) := by decide +kernel
theorem d_PS_colour_14 : decode b_PS_colour 14 = .ok (.invokespecial 84, 3) := by decide +kernel
theorem d_PS_colour_17 : decode b_PS_colour 17 = .ok (.athrow, 1) := by decide +kernel
theorem d_PS_colour_18 : decode b_PS_colour 18 = .ok (.aload_n 0, 1) := by decide +kernel
theorem d_PS_colour_19 : decode b_PS_colour 19 = .ok (.aload_n 0, 1) := by decide +kernel
theorem d_PS_colour_20 : decode b_PS_colour 20 = .ok (.getfield 48, 3) := by decide +kernel
theorem d_PS_colour_23 : decode b_PS_colour 23 = .ok (.invokevirtual 149, 3) := by decide +kernel
theorem d_PS_colour_26 : decode b_PS_colour 26 = .ok (.aload_n 0, 1) := by decide +kernel
theorem d_PS_colour_27 : decode b_PS_colour 27 = .ok (.getfield 33, 3) := by decide +kernel
theorem d_PS_colour_30 : decode b_PS_colour 30 = .ok (.aload_n 0, 1) := by decide +kernel
theorem d_PS_colour_31 : decode b_PS_colour 31 = .ok (.getfield 19, 3) := by decide +kernel
theorem d_PS_colour_34 : decode b_PS_colour 34 = .ok (.aload_n 0, 1) := by decide +kernel
theorem d_PS_colour_35 : decode b_PS_colour 35 = .ok (.getfield 44, 3) := by decide +kernel
theorem d_PS_colour_38 : decode b_PS_colour 38 = .ok (.invokevirtual 168, 3) := by decide +kernel
theorem d_PS_colour_41 : decode b_PS_colour 41 = .ok (.pop, 1) := by decide +kernel
theorem d_PS_colour_42 : decode b_PS_colour 42 = .ok (.aload_n 0, 1) := by decide +kernel
theorem d_PS_colour_43 : decode b_PS_colour 43 = .ok (.getfield 33, 3) := by decide +kernel
theorem d_PS_colour_46 : decode b_PS_colour 46 = .ok (.iload_n 1, 1) := by decide +kernel
theorem d_PS_colour_47 : decode b_PS_colour 47 = .ok (.invokevirtual 172, 3) := by decide +kernel
theorem d_PS_colour_50 : decode b_PS_colour 50 = .ok (.ireturn, 1) := by decide +kernel
theorem d_PS_colours_0 : decode b_PS_colours 0 = .ok (.aload_n 0, 1) := by decide +kernel
theorem d_PS_colours_1 : decode b_PS_colours 1 = .ok (.aload_n 0, 1) := by decide +kernel
theorem d_PS_colours_2 : decode b_PS_colours 2 = .ok (.getfield 48, 3) := by decide +kernel
theorem d_PS_colours_5 : decode b_PS_colours 5 = .ok (.invokevirtual 149, 3) := by decide +kernel
theorem d_PS_colours_8 : decode b_PS_colours 8 = .ok (.aload_n 0, 1) := by decide +kernel
theorem d_PS_colours_9 : decode b_PS_colours 9 = .ok (.getfield 33, 3) := by decide +kernel
theorem d_PS_colours_12 : decode b_PS_colours 12 = .ok (.aload_n 0, 1) := by decide +kernel
theorem d_PS_colours_13 : decode b_PS_colours 13 = .ok (.getfield 19, 3) := by decide +kernel
theorem d_PS_colours_16 : decode b_PS_colours 16 = .ok (.aload_n 0, 1) := by decide +kernel
theorem d_PS_colours_17 : decode b_PS_colours 17 = .ok (.getfield 44, 3) := by decide +kernel
theorem d_PS_colours_20 : decode b_PS_colours 20 = .ok (.invokevirtual 168, 3) := by decide +kernel
theorem d_PS_colours_23 : decode b_PS_colours 23 = .ok (.ireturn, 1) := by decide +kernel
theorem d_PS_corner_0 : decode b_PS_corner 0 = .ok (.aload_n 0, 1) := by decide +kernel
theorem d_PS_corner_1 : decode b_PS_corner 1 = .ok (.invokevirtual 123, 3) := by decide +kernel
theorem d_PS_corner_4 : decode b_PS_corner 4 = .ok (.istore_n 2, 1) := by decide +kernel
theorem d_PS_corner_5 : decode b_PS_corner 5 = .ok (.iload_n 2, 1) := by decide +kernel
theorem d_PS_corner_6 : decode b_PS_corner 6 = .ok (.ifCond .ne 13, 3) := by decide +kernel
theorem d_PS_corner_9 : decode b_PS_corner 9 = .ok (.new 66, 3) := by decide +kernel
theorem d_PS_corner_12 : decode b_PS_corner 12 = .ok (.dup, 1) := by decide +kernel
theorem d_PS_corner_13 : decode b_PS_corner 13 = .ok (.ldc 129, 2) := by decide +kernel
theorem d_PS_corner_15 : decode b_PS_corner 15 = .ok (.invokespecial 70, 3) := by decide +kernel
theorem d_PS_corner_18 : decode b_PS_corner 18 = .ok (.athrow, 1) := by decide +kernel
theorem d_PS_corner_19 : decode b_PS_corner 19 = .ok (.aload_n 0, 1) := by decide +kernel
theorem d_PS_corner_20 : decode b_PS_corner 20 = .ok (.iload_n 2, 1) := by decide +kernel
theorem d_PS_corner_21 : decode b_PS_corner 21 = .ok (.invokevirtual 126, 3) := by decide +kernel
theorem d_PS_corner_24 : decode b_PS_corner 24 = .ok (.istore_n 3, 1) := by decide +kernel
theorem d_PS_corner_25 : decode b_PS_corner 25 = .ok (.iload_n 1, 1) := by decide +kernel
theorem d_PS_corner_26 : decode b_PS_corner 26 = .ok (.ifCond .lt 11, 3) := by decide +kernel
theorem d_PS_corner_29 : decode b_PS_corner 29 = .ok (.iload_n 1, 1) := by decide +kernel
theorem d_PS_corner_30 : decode b_PS_corner 30 = .ok (.iload_n 3, 1) := by decide +kernel
theorem d_PS_corner_31 : decode b_PS_corner 31 = .ok (.invokestatic 71, 3) := by decide +kernel
theorem d_PS_corner_34 : decode b_PS_corner 34 = .ok (.if_icmp .lt 13, 3) := by decide +kernel
theorem d_PS_corner_37 : decode b_PS_corner 37 = .ok (.new 55, 3) := by decide +kernel
theorem d_PS_corner_40 : decode b_PS_corner 40 = .ok (.dup, 1) := by decide +kernel
theorem d_PS_corner_41 : decode b_PS_corner 41 = .ok (.ldc 131, 2) := by decide +kernel
theorem d_PS_corner_43 : decode b_PS_corner 43 = .ok (.invokespecial 59, 3) := by decide +kernel
theorem d_PS_corner_46 : decode b_PS_corner 46 = .ok (.athrow, 1) := by decide +kernel
theorem d_PS_corner_47 : decode b_PS_corner 47 = .ok (.iload_n 3, 1) := by decide +kernel
theorem d_PS_corner_48 : decode b_PS_corner 48 = .ok (.invokestatic 71, 3) := by decide +kernel
theorem d_PS_corner_51 : decode b_PS_corner 51 = .ok (.iconst 5, 1) := by decide +kernel
theorem d_PS_corner_52 : decode b_PS_corner 52 = .ok (.if_icmp .ne 9, 3) := by decide +kernel
theorem d_PS_corner_55 : decode b_PS_corner 55 = .ok (.iload_n 3, 1) := by decide +kernel
theorem d_PS_corner_56 : decode b_PS_corner 56 = .ok (.iload_n 1, 1) := by decide +kernel
theorem d_PS_corner_57 : decode b_PS_corner 57 = .ok (.invokestatic 133, 3) := by decide +kernel
theorem d_PS_corner_60 : decode b_PS_corner 60 = .ok (.ireturn, 1) := by decide +kernel
theorem d_PS_corner_61 : decode b_PS_corner 61 = .ok (.aload_n 0, 1) := by decide +kernel
theorem d_PS_corner_62 : decode b_PS_corner 62 = .ok (.iload_n 2, 1) := by decide +kernel
theorem d_PS_corner_63 : decode b_PS_corner 63 = .ok (.iload_n 3, 1) := by decide +kernel
theorem d_PS_corner_64 : decode b_PS_corner 64 = .ok (.invokevirtual 136, 3) := by decide +kernel
theorem d_PS_corner_67 : decode b_PS_corner 67 = .ok (.istore 4, 2) := by decide +kernel
theorem d_PS_corner_69 : decode b_PS_corner 69 = .ok (.iload_n 1, 1) := by decide +kernel
theorem d_PS_corner_70 : decode b_PS_corner 70 = .ok (.iconst 3, 1) := by decide +kernel
theorem d_PS_corner_71 : decode b_PS_corner 71 = .ok (.if_icmp .ge 16, 3) := by decide +kernel
theorem d_PS_corner_74 : decode b_PS_corner 74 = .ok (.iload_n 3, 1) := by decide +kernel
theorem d_PS_corner_75 : decode b_PS_corner 75 = .ok (.iload 4, 2) := by decide +kernel
theorem d_PS_corner_77 : decode b_PS_corner 77 = .ok (.iconst (-1), 1) := by decide +kernel
theorem d_PS_corner_78 : decode b_PS_corner 78 = .ok (.ixor, 1) := by decide +kernel
theorem d_PS_corner_79 : decode b_PS_corner 79 = .ok (.iand, 1) := by decide +kernel
theorem d_PS_corner_80 : decode b_PS_corner 80 = .ok (.iload_n 1, 1) := by decide +kernel
theorem d_PS_corner_81 : decode b_PS_corner 81 = .ok (.invokestatic 133, 3) := by decide +kernel
theorem d_PS_corner_84 : decode b_PS_corner 84 = .ok (.goto 11, 3) := by decide +kernel
theorem d_PS_corner_87 : decode b_PS_corner 87 = .ok (.iload 4, 2) := by decide +kernel
theorem d_PS_corner_89 : decode b_PS_corner 89 = .ok (.iload_n 1, 1) := by decide +kernel
theorem d_PS_corner_90 : decode b_PS_corner 90 = .ok (.iconst 3, 1) := by decide +kernel
theorem d_PS_corner_91 : decode b_PS_corner 91 = .ok (.isub, 1) := by decide +kernel
theorem d_PS_corner_92 : decode b_PS_corner 92 = .ok (.invokestatic 133, 3) := by decide +kernel
theorem d_PS_corner_95 : decode b_PS_corner 95 = .ok (.ireturn, 1) := by decide +kernel
theorem d_PS_cornersFacingTheLeast_0 : decode b_PS_cornersFacingTheLeast 0 = .ok (.aload_n 0, 1) := by decide +kernel
theorem d_PS_cornersFacingTheLeast_1 : decode b_PS_cornersFacingTheLeast 1 = .ok (.iload_n 1, 1) := by decide +kernel
theorem d_PS_cornersFacingTheLeast_2 : decode b_PS_cornersFacingTheLeast 2 = .ok (.invokevirtual 149, 3) := by decide +kernel
theorem d_PS_cornersFacingTheLeast_5 : decode b_PS_cornersFacingTheLeast 5 = .ok (.iload_n 2, 1) := by decide +kernel
theorem d_PS_cornersFacingTheLeast_6 : decode b_PS_cornersFacingTheLeast 6 = .ok (.iconst 0, 1) := by decide +kernel
theorem d_PS_cornersFacingTheLeast_7 : decode b_PS_cornersFacingTheLeast 7 = .ok (.invokestatic 133, 3) := by decide +kernel
theorem d_PS_cornersFacingTheLeast_10 : decode b_PS_cornersFacingTheLeast 10 = .ok (.istore_n 3, 1) := by decide +kernel
theorem d_PS_cornersFacingTheLeast_11 : decode b_PS_cornersFacingTheLeast 11 = .ok (.iload_n 3, 1) := by decide +kernel
theorem d_PS_cornersFacingTheLeast_12 : decode b_PS_cornersFacingTheLeast 12 = .ok (.iconst (-1), 1) := by decide +kernel
theorem d_PS_cornersFacingTheLeast_13 : decode b_PS_cornersFacingTheLeast 13 = .ok (.if_icmp .ne 5, 3) := by decide +kernel
theorem d_PS_cornersFacingTheLeast_16 : decode b_PS_cornersFacingTheLeast 16 = .ok (.iconst 0, 1) := by decide +kernel
theorem d_PS_cornersFacingTheLeast_17 : decode b_PS_cornersFacingTheLeast 17 = .ok (.ireturn, 1) := by decide +kernel
theorem d_PS_cornersFacingTheLeast_18 : decode b_PS_cornersFacingTheLeast 18 = .ok (.aload_n 0, 1) := by decide +kernel
theorem d_PS_cornersFacingTheLeast_19 : decode b_PS_cornersFacingTheLeast 19 = .ok (.getfield 19, 3) := by decide +kernel
theorem d_PS_cornersFacingTheLeast_22 : decode b_PS_cornersFacingTheLeast 22 = .ok (.iload_n 3, 1) := by decide +kernel
theorem d_PS_cornersFacingTheLeast_23 : decode b_PS_cornersFacingTheLeast 23 = .ok (.iload_n 2, 1) := by decide +kernel
theorem d_PS_cornersFacingTheLeast_24 : decode b_PS_cornersFacingTheLeast 24 = .ok (.iconst (-1), 1) := by decide +kernel
theorem d_PS_cornersFacingTheLeast_25 : decode b_PS_cornersFacingTheLeast 25 = .ok (.ixor, 1) := by decide +kernel
theorem d_PS_cornersFacingTheLeast_26 : decode b_PS_cornersFacingTheLeast 26 = .ok (.invokevirtual 217, 3) := by decide +kernel
theorem d_PS_cornersFacingTheLeast_29 : decode b_PS_cornersFacingTheLeast 29 = .ok (.iload_n 2, 1) := by decide +kernel
theorem d_PS_cornersFacingTheLeast_30 : decode b_PS_cornersFacingTheLeast 30 = .ok (.iand, 1) := by decide +kernel
theorem d_PS_cornersFacingTheLeast_31 : decode b_PS_cornersFacingTheLeast 31 = .ok (.iconst 1, 1) := by decide +kernel
theorem d_PS_cornersFacingTheLeast_32 : decode b_PS_cornersFacingTheLeast 32 = .ok (.iload_n 3, 1) := by decide +kernel
