theorem d_Law_around_0 : decode b_Law_around 0 = .ok (.aload_n 2, 1) := by decide +kernel
theorem d_Law_around_1 : decode b_Law_around 1 = .ok (.iconst 0, 1) := by decide +kernel
theorem d_Law_around_2 : decode b_Law_around 2 = .ok (.aload_n 0, 1) := by decide +kernel
theorem d_Law_around_3 : decode b_Law_around 3 = .ok (.iload_n 1, 1) := by decide +kernel
theorem d_Law_around_4 : decode b_Law_around 4 = .ok (.invokevirtual 45, 3) := by decide +kernel
theorem d_Law_around_7 : decode b_Law_around 7 = .ok (.ifCond .eq 7, 3) := by decide +kernel
theorem d_Law_around_10 : decode b_Law_around 10 = .ok (.lconst 1, 1) := by decide +kernel
theorem d_Law_around_11 : decode b_Law_around 11 = .ok (.goto 4, 3) := by decide +kernel
theorem d_Law_around_14 : decode b_Law_around 14 = .ok (.lconst 0, 1) := by decide +kernel
theorem d_Law_around_15 : decode b_Law_around 15 = .ok (.lastore, 1) := by decide +kernel
theorem d_Law_around_16 : decode b_Law_around 16 = .ok (.goto 6, 3) := by decide +kernel
theorem d_Law_around_19 : decode b_Law_around 19 = .ok (.astore_n 3, 1) := by decide +kernel
theorem d_Law_around_20 : decode b_Law_around 20 = .ok (.iconst 1, 1) := by decide +kernel
theorem d_Law_around_21 : decode b_Law_around 21 = .ok (.ireturn, 1) := by decide +kernel
theorem d_Law_around_22 : decode b_Law_around 22 = .ok (.iconst 0, 1) := by decide +kernel
theorem d_Law_around_23 : decode b_Law_around 23 = .ok (.ireturn, 1) := by decide +kernel
theorem d_Law_at_0 : decode b_Law_at 0 = .ok (.aload_n 3, 1) := by decide +kernel
theorem d_Law_at_1 : decode b_Law_at 1 = .ok (.iconst 0, 1) := by decide +kernel
theorem d_Law_at_2 : decode b_Law_at 2 = .ok (.aload_n 0, 1) := by decide +kernel
theorem d_Law_at_3 : decode b_Law_at 3 = .ok (.iload_n 1, 1) := by decide +kernel
theorem d_Law_at_4 : decode b_Law_at 4 = .ok (.iload_n 2, 1) := by decide +kernel
theorem d_Law_at_5 : decode b_Law_at 5 = .ok (.invokevirtual 62, 3) := by decide +kernel
theorem d_Law_at_8 : decode b_Law_at 8 = .ok (.i2l, 1) := by decide +kernel
theorem d_Law_at_9 : decode b_Law_at 9 = .ok (.lastore, 1) := by decide +kernel
theorem d_Law_at_10 : decode b_Law_at 10 = .ok (.goto 7, 3) := by decide +kernel
theorem d_Law_at_13 : decode b_Law_at 13 = .ok (.astore 4, 2) := by decide +kernel
theorem d_Law_at_15 : decode b_Law_at 15 = .ok (.iconst 1, 1) := by decide +kernel
theorem d_Law_at_16 : decode b_Law_at 16 = .ok (.ireturn, 1) := by decide +kernel
theorem d_Law_at_17 : decode b_Law_at 17 = .ok (.iconst 0, 1) := by decide +kernel
theorem d_Law_at_18 : decode b_Law_at 18 = .ok (.ireturn, 1) := by decide +kernel
theorem d_Law_bridge_0 : decode b_Law_bridge 0 = .ok (.aload_n 2, 1) := by decide +kernel
theorem d_Law_bridge_1 : decode b_Law_bridge 1 = .ok (.iconst 0, 1) := by decide +kernel
theorem d_Law_bridge_2 : decode b_Law_bridge 2 = .ok (.aload_n 0, 1) := by decide +kernel
theorem d_Law_bridge_3 : decode b_Law_bridge 3 = .ok (.iload_n 1, 1) := by decide +kernel
theorem d_Law_bridge_4 : decode b_Law_bridge 4 = .ok (.invokevirtual 49, 3) := by decide +kernel
theorem d_Law_bridge_7 : decode b_Law_bridge 7 = .ok (.ifCond .eq 7, 3) := by decide +kernel
theorem d_Law_bridge_10 : decode b_Law_bridge 10 = .ok (.lconst 1, 1) := by decide +kernel
theorem d_Law_bridge_11 : decode b_Law_bridge 11 = .ok (.goto 4, 3) := by decide +kernel
theorem d_Law_bridge_14 : decode b_Law_bridge 14 = .ok (.lconst 0, 1) := by decide +kernel
theorem d_Law_bridge_15 : decode b_Law_bridge 15 = .ok (.lastore, 1) := by decide +kernel
theorem d_Law_bridge_16 : decode b_Law_bridge 16 = .ok (.goto 6, 3) := by decide +kernel
theorem d_Law_bridge_19 : decode b_Law_bridge 19 = .ok (.astore_n 3, 1) := by decide +kernel
theorem d_Law_bridge_20 : decode b_Law_bridge 20 = .ok (.iconst 1, 1) := by decide +kernel
theorem d_Law_bridge_21 : decode b_Law_bridge 21 = .ok (.ireturn, 1) := by decide +kernel
theorem d_Law_bridge_22 : decode b_Law_bridge 22 = .ok (.iconst 0, 1) := by decide +kernel
theorem d_Law_bridge_23 : decode b_Law_bridge 23 = .ok (.ireturn, 1) := by decide +kernel
theorem d_Law_colour_0 : decode b_Law_colour 0 = .ok (.aload_n 2, 1) := by decide +kernel
theorem d_Law_colour_1 : decode b_Law_colour 1 = .ok (.iconst 0, 1) := by decide +kernel
theorem d_Law_colour_2 : decode b_Law_colour 2 = .ok (.aload_n 0, 1) := by decide +kernel
theorem d_Law_colour_3 : decode b_Law_colour 3 = .ok (.iload_n 1, 1) := by decide +kernel
theorem d_Law_colour_4 : decode b_Law_colour 4 = .ok (.invokevirtual 55, 3) := by decide +kernel
theorem d_Law_colour_7 : decode b_Law_colour 7 = .ok (.i2l, 1) := by decide +kernel
theorem d_Law_colour_8 : decode b_Law_colour 8 = .ok (.lastore, 1) := by decide +kernel
theorem d_Law_colour_9 : decode b_Law_colour 9 = .ok (.goto 6, 3) := by decide +kernel
theorem d_Law_colour_12 : decode b_Law_colour 12 = .ok (.astore_n 3, 1) := by decide +kernel
theorem d_Law_colour_13 : decode b_Law_colour 13 = .ok (.iconst 1, 1) := by decide +kernel
theorem d_Law_colour_14 : decode b_Law_colour 14 = .ok (.ireturn, 1) := by decide +kernel
theorem d_Law_colour_15 : decode b_Law_colour 15 = .ok (.iconst 0, 1) := by decide +kernel
theorem d_Law_colour_16 : decode b_Law_colour 16 = .ok (.ireturn, 1) := by decide +kernel
theorem d_Law_corner_0 : decode b_Law_corner 0 = .ok (.aload_n 2, 1) := by decide +kernel
theorem d_Law_corner_1 : decode b_Law_corner 1 = .ok (.iconst 0, 1) := by decide +kernel
theorem d_Law_corner_2 : decode b_Law_corner 2 = .ok (.aload_n 0, 1) := by decide +kernel
theorem d_Law_corner_3 : decode b_Law_corner 3 = .ok (.iload_n 1, 1) := by decide +kernel
theorem d_Law_corner_4 : decode b_Law_corner 4 = .ok (.invokevirtual 34, 3) := by decide +kernel
theorem d_Law_corner_7 : decode b_Law_corner 7 = .ok (.i2l, 1) := by decide +kernel
theorem d_Law_corner_8 : decode b_Law_corner 8 = .ok (.lastore, 1) := by decide +kernel
theorem d_Law_corner_9 : decode b_Law_corner 9 = .ok (.goto 9, 3) := by decide +kernel
theorem d_Law_corner_12 : decode b_Law_corner 12 = .ok (.astore_n 3, 1) := by decide +kernel
theorem d_Law_corner_13 : decode b_Law_corner 13 = .ok (.iconst 1, 1) := by decide +kernel
theorem d_Law_corner_14 : decode b_Law_corner 14 = .ok (.ireturn, 1) := by decide +kernel
theorem d_Law_corner_15 : decode b_Law_corner 15 = .ok (.astore_n 3, 1) := by decide +kernel
theorem d_Law_corner_16 : decode b_Law_corner 16 = .ok (.iconst 2, 1) := by decide +kernel
theorem d_Law_corner_17 : decode b_Law_corner 17 = .ok (.ireturn, 1) := by decide +kernel
theorem d_Law_corner_18 : decode b_Law_corner 18 = .ok (.iconst 0, 1) := by decide +kernel
theorem d_Law_corner_19 : decode b_Law_corner 19 = .ok (.ireturn, 1) := by decide +kernel
theorem d_Law_could_0 : decode b_Law_could 0 = .ok (.aload_n 3, 1) := by decide +kernel
theorem d_Law_could_1 : decode b_Law_could 1 = .ok (.iconst 0, 1) := by decide +kernel
theorem d_Law_could_2 : decode b_Law_could 2 = .ok (.aload_n 0, 1) := by decide +kernel
theorem d_Law_could_3 : decode b_Law_could 3 = .ok (.iload_n 1, 1) := by decide +kernel
theorem d_Law_could_4 : decode b_Law_could 4 = .ok (.iload_n 2, 1) := by decide +kernel
theorem d_Law_could_5 : decode b_Law_could 5 = .ok (.invokevirtual 41, 3) := by decide +kernel
theorem d_Law_could_8 : decode b_Law_could 8 = .ok (.ifCond .eq 7, 3) := by decide +kernel
theorem d_Law_could_11 : decode b_Law_could 11 = .ok (.lconst 1, 1) := by decide +kernel
theorem d_Law_could_12 : decode b_Law_could 12 = .ok (.goto 4, 3) := by decide +kernel
theorem d_Law_could_15 : decode b_Law_could 15 = .ok (.lconst 0, 1) := by decide +kernel
theorem d_Law_could_16 : decode b_Law_could 16 = .ok (.lastore, 1) := by decide +kernel
theorem d_Law_could_17 : decode b_Law_could 17 = .ok (.goto 11, 3) := by decide +kernel
theorem d_Law_could_20 : decode b_Law_could 20 = .ok (.astore 4, 2) := by decide +kernel
theorem d_Law_could_22 : decode b_Law_could 22 = .ok (.iconst 1, 1) := by decide +kernel
theorem d_Law_could_23 : decode b_Law_could 23 = .ok (.ireturn, 1) := by decide +kernel
theorem d_Law_could_24 : decode b_Law_could 24 = .ok (.astore 4, 2) := by decide +kernel
theorem d_Law_could_26 : decode b_Law_could 26 = .ok (.iconst 2, 1) := by decide +kernel
theorem d_Law_could_27 : decode b_Law_could 27 = .ok (.ireturn, 1) := by decide +kernel
theorem d_Law_could_28 : decode b_Law_could 28 = .ok (.iconst 0, 1) := by decide +kernel
theorem d_Law_could_29 : decode b_Law_could 29 = .ok (.ireturn, 1) := by decide +kernel
theorem d_Law_cut_0 : decode b_Law_cut 0 = .ok (.aload_n 2, 1) := by decide +kernel
theorem d_Law_cut_1 : decode b_Law_cut 1 = .ok (.iconst 0, 1) := by decide +kernel
theorem d_Law_cut_2 : decode b_Law_cut 2 = .ok (.aload_n 0, 1) := by decide +kernel
theorem d_Law_cut_3 : decode b_Law_cut 3 = .ok (.iload_n 1, 1) := by decide +kernel
theorem d_Law_cut_4 : decode b_Law_cut 4 = .ok (.invokevirtual 25, 3) := by decide +kernel
theorem d_Law_cut_7 : decode b_Law_cut 7 = .ok (.i2l, 1) := by decide +kernel
theorem d_Law_cut_8 : decode b_Law_cut 8 = .ok (.lastore, 1) := by decide +kernel
theorem d_Law_cut_9 : decode b_Law_cut 9 = .ok (.goto 6, 3) := by decide +kernel
theorem d_Law_cut_12 : decode b_Law_cut 12 = .ok (.astore_n 3, 1) := by decide +kernel
theorem d_Law_cut_13 : decode b_Law_cut 13 = .ok (.iconst 1, 1) := by decide +kernel
theorem d_Law_cut_14 : decode b_Law_cut 14 = .ok (.ireturn, 1) := by decide +kernel
theorem d_Law_cut_15 : decode b_Law_cut 15 = .ok (.iconst 0, 1) := by decide +kernel
theorem d_Law_cut_16 : decode b_Law_cut 16 = .ok (.ireturn, 1) := by decide +kernel
theorem d_Law_drop_0 : decode b_Law_drop 0 = .ok (.aload_n 2, 1) := by decide +kernel
theorem d_Law_drop_1 : decode b_Law_drop 1 = .ok (.iconst 0, 1) := by decide +kernel
theorem d_Law_drop_2 : decode b_Law_drop 2 = .ok (.aload_n 0, 1) := by decide +kernel
theorem d_Law_drop_3 : decode b_Law_drop 3 = .ok (.iload_n 1, 1) := by decide +kernel
theorem d_Law_drop_4 : decode b_Law_drop 4 = .ok (.invokevirtual 28, 3) := by decide +kernel
theorem d_Law_drop_7 : decode b_Law_drop 7 = .ok (.i2l, 1) := by decide +kernel
theorem d_Law_drop_8 : decode b_Law_drop 8 = .ok (.lastore, 1) := by decide +kernel
theorem d_Law_drop_9 : decode b_Law_drop 9 = .ok (.goto 6, 3) := by decide +kernel
theorem d_Law_drop_12 : decode b_Law_drop 12 = .ok (.astore_n 3, 1) := by decide +kernel
theorem d_Law_drop_13 : decode b_Law_drop 13 = .ok (.iconst 1, 1) := by decide +kernel
theorem d_Law_drop_14 : decode b_Law_drop 14 = .ok (.ireturn, 1) := by decide +kernel
theorem d_Law_drop_15 : decode b_Law_drop 15 = .ok (.iconst 0, 1) := by decide +kernel
theorem d_Law_drop_16 : decode b_Law_drop 16 = .ok (.ireturn, 1) := by decide +kernel
theorem d_Law_end_0 : decode b_Law_end 0 = .ok (.aload_n 3, 1) := by decide +kernel
theorem d_Law_end_1 : decode b_Law_end 1 = .ok (.iconst 0, 1) := by decide +kernel
theorem d_Law_end_2 : decode b_Law_end 2 = .ok (.aload_n 0, 1) := by decide +kernel
theorem d_Law_end_3 : decode b_Law_end 3 = .ok (.iload_n 1, 1) := by decide +kernel
theorem d_Law_end_4 : decode b_Law_end 4 = .ok (.iload_n 2, 1) := by decide +kernel
theorem d_Law_end_5 : decode b_Law_end 5 = .ok (.invokevirtual 31, 3) := by decide +kernel
theorem d_Law_end_8 : decode b_Law_end 8 = .ok (.i2l, 1) := by decide +kernel
theorem d_Law_end_9 : decode b_Law_end 9 = .ok (.lastore, 1) := by decide +kernel
theorem d_Law_end_10 : decode b_Law_end 10 = .ok (.goto 11, 3) := by decide +kernel
theorem d_Law_end_13 : decode b_Law_end 13 = .ok (.astore 4, 2) := by decide +kernel
theorem d_Law_end_15 : decode b_Law_end 15 = .ok (.iconst 1, 1) := by decide +kernel
theorem d_Law_end_16 : decode b_Law_end 16 = .ok (.ireturn, 1) := by decide +kernel
theorem d_Law_end_17 : decode b_Law_end 17 = .ok (.astore 4, 2) := by decide +kernel
theorem d_Law_end_19 : decode b_Law_end 19 = .ok (.iconst 2, 1) := by decide +kernel
theorem d_Law_end_20 : decode b_Law_end 20 = .ok (.ireturn, 1) := by decide +kernel
theorem d_Law_end_21 : decode b_Law_end 21 = .ok (.iconst 0, 1) := by decide +kernel
theorem d_Law_end_22 : decode b_Law_end 22 = .ok (.ireturn, 1) := by decide +kernel
theorem d_Law_faces_0 : decode b_Law_faces 0 = .ok (.aload_n 1, 1) := by decide +kernel
theorem d_Law_faces_1 : decode b_Law_faces 1 = .ok (.iconst 0, 1) := by decide +kernel
theorem d_Law_faces_2 : decode b_Law_faces 2 = .ok (.aload_n 0, 1) := by decide +kernel
theorem d_Law_faces_3 : decode b_Law_faces 3 = .ok (.invokevirtual 37, 3) := by decide +kernel
theorem d_Law_faces_6 : decode b_Law_faces 6 = .ok (.i2l, 1) := by decide +kernel
theorem d_Law_faces_7 : decode b_Law_faces 7 = .ok (.lastore, 1) := by decide +kernel
theorem d_Law_faces_8 : decode b_Law_faces 8 = .ok (.goto 6, 3) := by decide +kernel
theorem d_Law_faces_11 : decode b_Law_faces 11 = .ok (.astore_n 2, 1) := by decide +kernel
theorem d_Law_faces_12 : decode b_Law_faces 12 = .ok (.iconst 1, 1) := by decide +kernel
theorem d_Law_faces_13 : decode b_Law_faces 13 = .ok (.ireturn, 1) := by decide +kernel
theorem d_Law_faces_14 : decode b_Law_faces 14 = .ok (.iconst 0, 1) := by decide +kernel
theorem d_Law_faces_15 : decode b_Law_faces 15 = .ok (.ireturn, 1) := by decide +kernel
theorem d_Law_hinge_0 : decode b_Law_hinge 0 = .ok (.aload_n 2, 1) := by decide +kernel
theorem d_Law_hinge_1 : decode b_Law_hinge 1 = .ok (.iconst 0, 1) := by decide +kernel
theorem d_Law_hinge_2 : decode b_Law_hinge 2 = .ok (.aload_n 0, 1) := by decide +kernel
theorem d_Law_hinge_3 : decode b_Law_hinge 3 = .ok (.iload_n 1, 1) := by decide +kernel
theorem d_Law_hinge_4 : decode b_Law_hinge 4 = .ok (.invokevirtual 52, 3) := by decide +kernel
theorem d_Law_hinge_7 : decode b_Law_hinge 7 = .ok (.ifCond .eq 7, 3) := by decide +kernel
theorem d_Law_hinge_10 : decode b_Law_hinge 10 = .ok (.lconst 1, 1) := by decide +kernel
theorem d_Law_hinge_11 : decode b_Law_hinge 11 = .ok (.goto 4, 3) := by decide +kernel
theorem d_Law_hinge_14 : decode b_Law_hinge 14 = .ok (.lconst 0, 1) := by decide +kernel
theorem d_Law_hinge_15 : decode b_Law_hinge 15 = .ok (.lastore, 1) := by decide +kernel
theorem d_Law_hinge_16 : decode b_Law_hinge 16 = .ok (.goto 6, 3) := by decide +kernel
theorem d_Law_hinge_19 : decode b_Law_hinge 19 = .ok (.astore_n 3, 1) := by decide +kernel
theorem d_Law_hinge_20 : decode b_Law_hinge 20 = .ok (.iconst 1, 1) := by decide +kernel
theorem d_Law_hinge_21 : decode b_Law_hinge 21 = .ok (.ireturn, 1) := by decide +kernel
theorem d_Law_hinge_22 : decode b_Law_hinge 22 = .ok (.iconst 0, 1) := by decide +kernel
theorem d_Law_hinge_23 : decode b_Law_hinge 23 = .ok (.ireturn, 1) := by decide +kernel
theorem d_Law_line_0 : decode b_Law_line 0 = .ok (.aload_n 3, 1) := by decide +kernel
theorem d_Law_line_1 : decode b_Law_line 1 = .ok (.iconst 0, 1) := by decide +kernel
theorem d_Law_line_2 : decode b_Law_line 2 = .ok (.aload_n 0, 1) := by decide +kernel
theorem d_Law_line_3 : decode b_Law_line 3 = .ok (.iload_n 1, 1) := by decide +kernel
theorem d_Law_line_4 : decode b_Law_line 4 = .ok (.iload_n 2, 1) := by decide +kernel
theorem d_Law_line_5 : decode b_Law_line 5 = .ok (.invokevirtual 17, 3) := by decide +kernel
theorem d_Law_line_8 : decode b_Law_line 8 = .ok (.i2l, 1) := by decide +kernel
theorem d_Law_line_9 : decode b_Law_line 9 = .ok (.lastore, 1) := by decide +kernel
theorem d_Law_line_10 : decode b_Law_line 10 = .ok (.goto 15, 3) := by decide +kernel
theorem d_Law_line_13 : decode b_Law_line 13 = .ok (.astore 4, 2) := by decide +kernel
theorem d_Law_line_15 : decode b_Law_line 15 = .ok (.iconst 1, 1) := by decide +kernel
theorem d_Law_line_16 : decode b_Law_line 16 = .ok (.ireturn, 1) := by decide +kernel
theorem d_Law_line_17 : decode b_Law_line 17 = .ok (.astore 4, 2) := by decide +kernel
theorem d_Law_line_19 : decode b_Law_line 19 = .ok (.iconst 2, 1) := by decide +kernel
theorem d_Law_line_20 : decode b_Law_line 20 = .ok (.ireturn, 1) := by decide +kernel
theorem d_Law_line_21 : decode b_Law_line 21 = .ok (.astore 4, 2) := by decide +kernel
theorem d_Law_line_23 : decode b_Law_line 23 = .ok (.iconst 3, 1) := by decide +kernel
theorem d_Law_line_24 : decode b_Law_line 24 = .ok (.ireturn, 1) := by decide +kernel
theorem d_Law_line_25 : decode b_Law_line 25 = .ok (.iconst 0, 1) := by decide +kernel
theorem d_Law_line_26 : decode b_Law_line 26 = .ok (.ireturn, 1) := by decide +kernel
theorem d_Law_meets_0 : decode b_Law_meets 0 = .ok (.aload_n 3, 1) := by decide +kernel
theorem d_Law_meets_1 : decode b_Law_meets 1 = .ok (.iconst 0, 1) := by decide +kernel
theorem d_Law_meets_2 : decode b_Law_meets 2 = .ok (.aload_n 0, 1) := by decide +kernel
theorem d_Law_meets_3 : decode b_Law_meets 3 = .ok (.iload_n 1, 1) := by decide +kernel
theorem d_Law_meets_4 : decode b_Law_meets 4 = .ok (.iload_n 2, 1) := by decide +kernel
theorem d_Law_meets_5 : decode b_Law_meets 5 = .ok (.invokevirtual 65, 3) := by decide +kernel
theorem d_Law_meets_8 : decode b_Law_meets 8 = .ok (.ifCond .eq 7, 3) := by decide +kernel
theorem d_Law_meets_11 : decode b_Law_meets 11 = .ok (.lconst 1, 1) := by decide +kernel
theorem d_Law_meets_12 : decode b_Law_meets 12 = .ok (.goto 4, 3) := by decide +kernel
theorem d_Law_meets_15 : decode b_Law_meets 15 = .ok (.lconst 0, 1) := by decide +kernel
theorem d_Law_meets_16 : decode b_Law_meets 16 = .ok (.lastore, 1) := by decide +kernel
theorem d_Law_meets_17 : decode b_Law_meets 17 = .ok (.goto 11, 3) := by decide +kernel
theorem d_Law_meets_20 : decode b_Law_meets 20 = .ok (.astore 4, 2) := by decide +kernel
theorem d_Law_meets_22 : decode b_Law_meets 22 = .ok (.iconst 1, 1) := by decide +kernel
theorem d_Law_meets_23 : decode b_Law_meets 23 = .ok (.ireturn, 1) := by decide +kernel
theorem d_Law_meets_24 : decode b_Law_meets 24 = .ok (.astore 4, 2) := by decide +kernel
theorem d_Law_meets_26 : decode b_Law_meets 26 = .ok (.iconst 2, 1) := by decide +kernel
theorem d_Law_meets_27 : decode b_Law_meets 27 = .ok (.ireturn, 1) := by decide +kernel
theorem d_Law_meets_28 : decode b_Law_meets 28 = .ok (.iconst 0, 1) := by decide +kernel
theorem d_Law_meets_29 : decode b_Law_meets 29 = .ok (.ireturn, 1) := by decide +kernel
theorem d_Law_node_0 : decode b_Law_node 0 = .ok (.aload_n 2, 1) := by decide +kernel
theorem d_Law_node_1 : decode b_Law_node 1 = .ok (.iconst 0, 1) := by decide +kernel
theorem d_Law_node_2 : decode b_Law_node 2 = .ok (.aload_n 0, 1) := by decide +kernel
theorem d_Law_node_3 : decode b_Law_node 3 = .ok (.iload_n 1, 1) := by decide +kernel
theorem d_Law_node_4 : decode b_Law_node 4 = .ok (.invokevirtual 7, 3) := by decide +kernel
theorem d_Law_node_7 : decode b_Law_node 7 = .ok (.i2l, 1) := by decide +kernel
theorem d_Law_node_8 : decode b_Law_node 8 = .ok (.lastore, 1) := by decide +kernel
theorem d_Law_node_9 : decode b_Law_node 9 = .ok (.goto 9, 3) := by decide +kernel
theorem d_Law_node_12 : decode b_Law_node 12 = .ok (.astore_n 3, 1) := by decide +kernel
theorem d_Law_node_13 : decode b_Law_node 13 = .ok (.iconst 1, 1) := by decide +kernel
theorem d_Law_node_14 : decode b_Law_node 14 = .ok (.ireturn, 1) := by decide +kernel
theorem d_Law_node_15 : decode b_Law_node 15 = .ok (.astore_n 3, 1) := by decide +kernel
theorem d_Law_node_16 : decode b_Law_node 16 = .ok (.iconst 2, 1) := by decide +kernel
theorem d_Law_node_17 : decode b_Law_node 17 = .ok (.ireturn, 1) := by decide +kernel
theorem d_Law_node_18 : decode b_Law_node 18 = .ok (.iconst 0, 1) := by decide +kernel
theorem d_Law_node_19 : decode b_Law_node 19 = .ok (.ireturn, 1) := by decide +kernel
theorem d_Law_place_0 : decode b_Law_place 0 = .ok (.aload 4, 2) := by decide +kernel
theorem d_Law_place_2 : decode b_Law_place 2 = .ok (.iconst 0, 1) := by decide +kernel
theorem d_Law_place_3 : decode b_Law_place 3 = .ok (.aload_n 0, 1) := by decide +kernel
theorem d_Law_place_4 : decode b_Law_place 4 = .ok (.iload_n 1, 1) := by decide +kernel
theorem d_Law_place_5 : decode b_Law_place 5 = .ok (.iload_n 2, 1) := by decide +kernel
theorem d_Law_place_6 : decode b_Law_place 6 = .ok (.iload_n 3, 1) := by decide +kernel
theorem d_Law_place_7 : decode b_Law_place 7 = .ok (.invokevirtual 58, 3) := by decide +kernel
theorem d_Law_place_10 : decode b_Law_place 10 = .ok (.i2l, 1) := by decide +kernel
theorem d_Law_place_11 : decode b_Law_place 11 = .ok (.lastore, 1) := by decide +kernel
theorem d_Law_place_12 : decode b_Law_place 12 = .ok (.goto 11, 3) := by decide +kernel
theorem d_Law_place_15 : decode b_Law_place 15 = .ok (.astore 5, 2) := by decide +kernel
theorem d_Law_place_17 : decode b_Law_place 17 = .ok (.iconst 1, 1) := by decide +kernel
theorem d_Law_place_18 : decode b_Law_place 18 = .ok (.ireturn, 1) := by decide +kernel
theorem d_Law_place_19 : decode b_Law_place 19 = .ok (.astore 5, 2) := by decide +kernel
theorem d_Law_place_21 : decode b_Law_place 21 = .ok (.iconst 2, 1) := by decide +kernel
theorem d_Law_place_22 : decode b_Law_place 22 = .ok (.ireturn, 1) := by decide +kernel
theorem d_Law_place_23 : decode b_Law_place 23 = .ok (.iconst 0, 1) := by decide +kernel
theorem d_Law_place_24 : decode b_Law_place 24 = .ok (.ireturn, 1) := by decide +kernel
