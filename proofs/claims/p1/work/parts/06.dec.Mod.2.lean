theorem d_Mod_canColour_48 : decode b_Mod_canColour 48 = .ok (.istore_n 3, 1) := by decide +kernel
theorem d_Mod_canColour_49 : decode b_Mod_canColour 49 = .ok (.iload_n 3, 1) := by decide +kernel
theorem d_Mod_canColour_50 : decode b_Mod_canColour 50 = .ok (.ifCond .lt 92, 3) := by decide +kernel
theorem d_Mod_canColour_53 : decode b_Mod_canColour 53 = .ok (.iload_n 3, 1) := by decide +kernel
theorem d_Mod_canColour_54 : decode b_Mod_canColour 54 = .ok (.iload_n 2, 1) := by decide +kernel
theorem d_Mod_canColour_55 : decode b_Mod_canColour 55 = .ok (.if_icmp .ge 87, 3) := by decide +kernel
theorem d_Mod_canColour_142 : decode b_Mod_canColour 142 = .ok (.iload_n 3, 1) := by decide +kernel
theorem d_Mod_canColour_143 : decode b_Mod_canColour 143 = .ok (.iload_n 2, 1) := by decide +kernel
theorem d_Mod_canColour_144 : decode b_Mod_canColour 144 = .ok (.if_icmp .ne 7, 3) := by decide +kernel
theorem d_Mod_canColour_147 : decode b_Mod_canColour 147 = .ok (.iconst 1, 1) := by decide +kernel
theorem d_Mod_canColour_148 : decode b_Mod_canColour 148 = .ok (.goto 4, 3) := by decide +kernel
theorem d_Mod_canColour_152 : decode b_Mod_canColour 152 = .ok (.ireturn, 1) := by decide +kernel
theorem d_Mod_colour_0 : decode b_Mod_colour 0 = .ok (.aload_n 0, 1) := by decide +kernel
theorem d_Mod_colour_1 : decode b_Mod_colour 1 = .ok (.aload_n 0, 1) := by decide +kernel
theorem d_Mod_colour_2 : decode b_Mod_colour 2 = .ok (.iload_n 1, 1) := by decide +kernel
theorem d_Mod_colour_3 : decode b_Mod_colour 3 = .ok (.invokevirtual 76, 3) := by decide +kernel
theorem d_Mod_colour_6 : decode b_Mod_colour 6 = .ok (.ifCond .ne 7, 3) := by decide +kernel
theorem d_Mod_colour_9 : decode b_Mod_colour 9 = .ok (.iconst 1, 1) := by decide +kernel
theorem d_Mod_colour_10 : decode b_Mod_colour 10 = .ok (.goto 4, 3) := by decide +kernel
theorem d_Mod_colour_14 : decode b_Mod_colour 14 = .ok (.iconst 0, 1) := by decide +kernel
theorem d_Mod_colour_15 : decode b_Mod_colour 15 = .ok (.iconst 0, 1) := by decide +kernel
theorem d_Mod_colour_16 : decode b_Mod_colour 16 = .ok (.invokevirtual 79, 3) := by decide +kernel
theorem d_Mod_colour_19 : decode b_Mod_colour 19 = .ok (.ifCond .eq 5, 3) := by decide +kernel
theorem d_Mod_colour_22 : decode b_Mod_colour 22 = .ok (.iconst 0, 1) := by decide +kernel
theorem d_Mod_colour_23 : decode b_Mod_colour 23 = .ok (.ireturn, 1) := by decide +kernel
theorem d_Mod_colours_0 : decode b_Mod_colours 0 = .ok (.aload_n 0, 1) := by decide +kernel
theorem d_Mod_colours_1 : decode b_Mod_colours 1 = .ok (.iconst 0, 1) := by decide +kernel
theorem d_Mod_colours_2 : decode b_Mod_colours 2 = .ok (.putfield 68, 3) := by decide +kernel
theorem d_Mod_colours_5 : decode b_Mod_colours 5 = .ok (.aload_n 0, 1) := by decide +kernel
theorem d_Mod_colours_6 : decode b_Mod_colours 6 = .ok (.invokevirtual 182, 3) := by decide +kernel
theorem d_Mod_colours_9 : decode b_Mod_colours 9 = .ok (.ireturn, 1) := by decide +kernel
theorem d_Mod_corner_0 : decode b_Mod_corner 0 = .ok (.aload_n 0, 1) := by decide +kernel
theorem d_Mod_corner_1 : decode b_Mod_corner 1 = .ok (.invokevirtual 157, 3) := by decide +kernel
theorem d_Mod_corner_4 : decode b_Mod_corner 4 = .ok (.istore_n 2, 1) := by decide +kernel
theorem d_Mod_corner_5 : decode b_Mod_corner 5 = .ok (.iload_n 2, 1) := by decide +kernel
theorem d_Mod_corner_6 : decode b_Mod_corner 6 = .ok (.ifCond .ne 7, 3) := by decide +kernel
theorem d_Mod_corner_9 : decode b_Mod_corner 9 = .ok (.iconst 0, 1) := by decide +kernel
theorem d_Mod_corner_10 : decode b_Mod_corner 10 = .ok (.goto 8, 3) := by decide +kernel
theorem d_Mod_corner_18 : decode b_Mod_corner 18 = .ok (.istore_n 3, 1) := by decide +kernel
theorem d_Mod_corner_19 : decode b_Mod_corner 19 = .ok (.aload_n 0, 1) := by decide +kernel
theorem d_Mod_corner_20 : decode b_Mod_corner 20 = .ok (.iload_n 2, 1) := by decide +kernel
theorem d_Mod_corner_21 : decode b_Mod_corner 21 = .ok (.ifCond .ne 7, 3) := by decide +kernel
theorem d_Mod_corner_24 : decode b_Mod_corner 24 = .ok (.iconst 1, 1) := by decide +kernel
theorem d_Mod_corner_25 : decode b_Mod_corner 25 = .ok (.goto 4, 3) := by decide +kernel
theorem d_Mod_corner_29 : decode b_Mod_corner 29 = .ok (.iload_n 1, 1) := by decide +kernel
theorem d_Mod_corner_30 : decode b_Mod_corner 30 = .ok (.ifCond .lt 8, 3) := by decide +kernel
theorem d_Mod_corner_33 : decode b_Mod_corner 33 = .ok (.iload_n 1, 1) := by decide +kernel
theorem d_Mod_corner_34 : decode b_Mod_corner 34 = .ok (.iload_n 3, 1) := by decide +kernel
theorem d_Mod_corner_35 : decode b_Mod_corner 35 = .ok (.if_icmp .lt 7, 3) := by decide +kernel
theorem d_Mod_corner_38 : decode b_Mod_corner 38 = .ok (.iconst 1, 1) := by decide +kernel
theorem d_Mod_corner_39 : decode b_Mod_corner 39 = .ok (.goto 4, 3) := by decide +kernel
theorem d_Mod_corner_42 : decode b_Mod_corner 42 = .ok (.iconst 0, 1) := by decide +kernel
theorem d_Mod_corner_43 : decode b_Mod_corner 43 = .ok (.iconst 0, 1) := by decide +kernel
theorem d_Mod_corner_44 : decode b_Mod_corner 44 = .ok (.invokevirtual 79, 3) := by decide +kernel
theorem d_Mod_corner_47 : decode b_Mod_corner 47 = .ok (.ifCond .eq 5, 3) := by decide +kernel
theorem d_Mod_corner_50 : decode b_Mod_corner 50 = .ok (.iconst 0, 1) := by decide +kernel
theorem d_Mod_corner_51 : decode b_Mod_corner 51 = .ok (.ireturn, 1) := by decide +kernel
theorem d_Mod_could_0 : decode b_Mod_could 0 = .ok (.aload_n 0, 1) := by decide +kernel
theorem d_Mod_could_1 : decode b_Mod_could 1 = .ok (.iload_n 1, 1) := by decide +kernel
theorem d_Mod_could_2 : decode b_Mod_could 2 = .ok (.invokevirtual 76, 3) := by decide +kernel
theorem d_Mod_could_5 : decode b_Mod_could 5 = .ok (.ifCond .eq 11, 3) := by decide +kernel
theorem d_Mod_could_16 : decode b_Mod_could 16 = .ok (.iconst 1, 1) := by decide +kernel
theorem d_Mod_could_17 : decode b_Mod_could 17 = .ok (.goto 4, 3) := by decide +kernel
theorem d_Mod_could_21 : decode b_Mod_could 21 = .ok (.istore_n 3, 1) := by decide +kernel
theorem d_Mod_could_22 : decode b_Mod_could 22 = .ok (.aload_n 0, 1) := by decide +kernel
theorem d_Mod_could_23 : decode b_Mod_could 23 = .ok (.iload_n 3, 1) := by decide +kernel
theorem d_Mod_could_24 : decode b_Mod_could 24 = .ok (.iload_n 1, 1) := by decide +kernel
theorem d_Mod_could_25 : decode b_Mod_could 25 = .ok (.iload_n 2, 1) := by decide +kernel
theorem d_Mod_could_26 : decode b_Mod_could 26 = .ok (.if_icmp .eq 12, 3) := by decide +kernel
theorem d_Mod_could_29 : decode b_Mod_could 29 = .ok (.aload_n 0, 1) := by decide +kernel
theorem d_Mod_could_30 : decode b_Mod_could 30 = .ok (.iload_n 1, 1) := by decide +kernel
theorem d_Mod_could_31 : decode b_Mod_could 31 = .ok (.iload_n 2, 1) := by decide +kernel
theorem d_Mod_could_32 : decode b_Mod_could 32 = .ok (.invokevirtual 87, 3) := by decide +kernel
theorem d_Mod_could_35 : decode b_Mod_could 35 = .ok (.ifCond .lt 7, 3) := by decide +kernel
theorem d_Mod_could_38 : decode b_Mod_could 38 = .ok (.iconst 1, 1) := by decide +kernel
theorem d_Mod_could_39 : decode b_Mod_could 39 = .ok (.goto 4, 3) := by decide +kernel
theorem d_Mod_could_42 : decode b_Mod_could 42 = .ok (.iconst 0, 1) := by decide +kernel
theorem d_Mod_could_43 : decode b_Mod_could 43 = .ok (.iconst 0, 1) := by decide +kernel
theorem d_Mod_could_44 : decode b_Mod_could 44 = .ok (.invokevirtual 79, 3) := by decide +kernel
theorem d_Mod_could_47 : decode b_Mod_could 47 = .ok (.ifCond .ne 16, 3) := by decide +kernel
theorem d_Mod_could_63 : decode b_Mod_could 63 = .ok (.iconst 0, 1) := by decide +kernel
theorem d_Mod_could_64 : decode b_Mod_could 64 = .ok (.ireturn, 1) := by decide +kernel
theorem d_Mod_countLines_0 : decode b_Mod_countLines 0 = .ok (.iconst 0, 1) := by decide +kernel
theorem d_Mod_countLines_1 : decode b_Mod_countLines 1 = .ok (.istore_n 1, 1) := by decide +kernel
theorem d_Mod_countLines_2 : decode b_Mod_countLines 2 = .ok (.iconst 0, 1) := by decide +kernel
theorem d_Mod_countLines_3 : decode b_Mod_countLines 3 = .ok (.istore_n 2, 1) := by decide +kernel
theorem d_Mod_countLines_4 : decode b_Mod_countLines 4 = .ok (.iload_n 2, 1) := by decide +kernel
theorem d_Mod_countLines_5 : decode b_Mod_countLines 5 = .ok (.bipush 24, 2) := by decide +kernel
theorem d_Mod_countLines_7 : decode b_Mod_countLines 7 = .ok (.if_icmp .ge 26, 3) := by decide +kernel
theorem d_Mod_countLines_10 : decode b_Mod_countLines 10 = .ok (.aload_n 0, 1) := by decide +kernel
theorem d_Mod_countLines_11 : decode b_Mod_countLines 11 = .ok (.getfield 13, 3) := by decide +kernel
theorem d_Mod_countLines_14 : decode b_Mod_countLines 14 = .ok (.iload_n 2, 1) := by decide +kernel
theorem d_Mod_countLines_15 : decode b_Mod_countLines 15 = .ok (.iaload, 1) := by decide +kernel
theorem d_Mod_countLines_16 : decode b_Mod_countLines 16 = .ok (.ifCond .lt 9, 3) := by decide +kernel
theorem d_Mod_countLines_25 : decode b_Mod_countLines 25 = .ok (.iload_n 1, 1) := by decide +kernel
theorem d_Mod_countLines_26 : decode b_Mod_countLines 26 = .ok (.istore_n 1, 1) := by decide +kernel
theorem d_Mod_countLines_27 : decode b_Mod_countLines 27 = .ok (.iinc 2 1, 3) := by decide +kernel
theorem d_Mod_countLines_30 : decode b_Mod_countLines 30 = .ok (.goto (-26), 3) := by decide +kernel
theorem d_Mod_countLines_33 : decode b_Mod_countLines 33 = .ok (.iload_n 1, 1) := by decide +kernel
theorem d_Mod_countLines_34 : decode b_Mod_countLines 34 = .ok (.ireturn, 1) := by decide +kernel
theorem d_Mod_countNodes_0 : decode b_Mod_countNodes 0 = .ok (.iconst 0, 1) := by decide +kernel
theorem d_Mod_countNodes_1 : decode b_Mod_countNodes 1 = .ok (.istore_n 1, 1) := by decide +kernel
theorem d_Mod_countNodes_2 : decode b_Mod_countNodes 2 = .ok (.iconst 0, 1) := by decide +kernel
theorem d_Mod_countNodes_3 : decode b_Mod_countNodes 3 = .ok (.istore_n 2, 1) := by decide +kernel
theorem d_Mod_countNodes_4 : decode b_Mod_countNodes 4 = .ok (.iload_n 2, 1) := by decide +kernel
theorem d_Mod_countNodes_5 : decode b_Mod_countNodes 5 = .ok (.bipush 10, 2) := by decide +kernel
theorem d_Mod_countNodes_7 : decode b_Mod_countNodes 7 = .ok (.if_icmp .ge 26, 3) := by decide +kernel
theorem d_Mod_countNodes_10 : decode b_Mod_countNodes 10 = .ok (.aload_n 0, 1) := by decide +kernel
theorem d_Mod_countNodes_11 : decode b_Mod_countNodes 11 = .ok (.getfield 7, 3) := by decide +kernel
theorem d_Mod_countNodes_14 : decode b_Mod_countNodes 14 = .ok (.iload_n 2, 1) := by decide +kernel
theorem d_Mod_countNodes_15 : decode b_Mod_countNodes 15 = .ok (.baload, 1) := by decide +kernel
theorem d_Mod_countNodes_16 : decode b_Mod_countNodes 16 = .ok (.ifCond .eq 9, 3) := by decide +kernel
theorem d_Mod_countNodes_19 : decode b_Mod_countNodes 19 = .ok (.iload_n 1, 1) := by decide +kernel
theorem d_Mod_countNodes_20 : decode b_Mod_countNodes 20 = .ok (.iconst 1, 1) := by decide +kernel
theorem d_Mod_countNodes_21 : decode b_Mod_countNodes 21 = .ok (.iadd, 1) := by decide +kernel
theorem d_Mod_countNodes_22 : decode b_Mod_countNodes 22 = .ok (.goto 4, 3) := by decide +kernel
theorem d_Mod_countNodes_25 : decode b_Mod_countNodes 25 = .ok (.iload_n 1, 1) := by decide +kernel
theorem d_Mod_countNodes_26 : decode b_Mod_countNodes 26 = .ok (.istore_n 1, 1) := by decide +kernel
theorem d_Mod_countNodes_27 : decode b_Mod_countNodes 27 = .ok (.iinc 2 1, 3) := by decide +kernel
theorem d_Mod_countNodes_30 : decode b_Mod_countNodes 30 = .ok (.goto (-26), 3) := by decide +kernel
theorem d_Mod_countNodes_33 : decode b_Mod_countNodes 33 = .ok (.iload_n 1, 1) := by decide +kernel
theorem d_Mod_countNodes_34 : decode b_Mod_countNodes 34 = .ok (.ireturn, 1) := by decide +kernel
theorem d_Mod_cut_0 : decode b_Mod_cut 0 = .ok (.aload_n 0, 1) := by decide +kernel
theorem d_Mod_cut_1 : decode b_Mod_cut 1 = .ok (.aload_n 0, 1) := by decide +kernel
theorem d_Mod_cut_2 : decode b_Mod_cut 2 = .ok (.iload_n 1, 1) := by decide +kernel
theorem d_Mod_cut_3 : decode b_Mod_cut 3 = .ok (.invokevirtual 94, 3) := by decide +kernel
theorem d_Mod_cut_6 : decode b_Mod_cut 6 = .ok (.ifCond .ne 7, 3) := by decide +kernel
theorem d_Mod_cut_9 : decode b_Mod_cut 9 = .ok (.iconst 1, 1) := by decide +kernel
theorem d_Mod_cut_10 : decode b_Mod_cut 10 = .ok (.goto 4, 3) := by decide +kernel
theorem d_Mod_cut_14 : decode b_Mod_cut 14 = .ok (.iconst 0, 1) := by decide +kernel
theorem d_Mod_cut_15 : decode b_Mod_cut 15 = .ok (.iconst 0, 1) := by decide +kernel
theorem d_Mod_cut_16 : decode b_Mod_cut 16 = .ok (.invokevirtual 79, 3) := by decide +kernel
theorem d_Mod_cut_19 : decode b_Mod_cut 19 = .ok (.ifCond .eq 5, 3) := by decide +kernel
theorem d_Mod_cut_22 : decode b_Mod_cut 22 = .ok (.iconst 0, 1) := by decide +kernel
theorem d_Mod_cut_23 : decode b_Mod_cut 23 = .ok (.ireturn, 1) := by decide +kernel
theorem d_Mod_drawable_0 : decode b_Mod_drawable 0 = .ok (.aload_n 0, 1) := by decide +kernel
theorem d_Mod_drawable_1 : decode b_Mod_drawable 1 = .ok (.iconst 0, 1) := by decide +kernel
theorem d_Mod_drawable_2 : decode b_Mod_drawable 2 = .ok (.putfield 68, 3) := by decide +kernel
theorem d_Mod_drawable_5 : decode b_Mod_drawable 5 = .ok (.aload_n 0, 1) := by decide +kernel
theorem d_Mod_drawable_6 : decode b_Mod_drawable 6 = .ok (.aload_n 0, 1) := by decide +kernel
theorem d_Mod_drawable_7 : decode b_Mod_drawable 7 = .ok (.invokevirtual 103, 3) := by decide +kernel
theorem d_Mod_drawable_10 : decode b_Mod_drawable 10 = .ok (.invokevirtual 151, 3) := by decide +kernel
theorem d_Mod_drawable_13 : decode b_Mod_drawable 13 = .ok (.ireturn, 1) := by decide +kernel
theorem d_Mod_drop_0 : decode b_Mod_drop 0 = .ok (.aload_n 0, 1) := by decide +kernel
theorem d_Mod_drop_1 : decode b_Mod_drop 1 = .ok (.aload_n 0, 1) := by decide +kernel
theorem d_Mod_drop_2 : decode b_Mod_drop 2 = .ok (.iload_n 1, 1) := by decide +kernel
theorem d_Mod_drop_3 : decode b_Mod_drop 3 = .ok (.invokevirtual 76, 3) := by decide +kernel
theorem d_Mod_drop_6 : decode b_Mod_drop 6 = .ok (.ifCond .ne 7, 3) := by decide +kernel
theorem d_Mod_drop_9 : decode b_Mod_drop 9 = .ok (.iconst 1, 1) := by decide +kernel
theorem d_Mod_drop_10 : decode b_Mod_drop 10 = .ok (.goto 4, 3) := by decide +kernel
theorem d_Mod_drop_14 : decode b_Mod_drop 14 = .ok (.iconst 0, 1) := by decide +kernel
theorem d_Mod_drop_15 : decode b_Mod_drop 15 = .ok (.iconst 0, 1) := by decide +kernel
theorem d_Mod_drop_16 : decode b_Mod_drop 16 = .ok (.invokevirtual 79, 3) := by decide +kernel
theorem d_Mod_drop_19 : decode b_Mod_drop 19 = .ok (.ifCond .eq 5, 3) := by decide +kernel
theorem d_Mod_drop_22 : decode b_Mod_drop 22 = .ok (.iconst 0, 1) := by decide +kernel
theorem d_Mod_drop_23 : decode b_Mod_drop 23 = .ok (.ireturn, 1) := by decide +kernel
theorem d_Mod_end_0 : decode b_Mod_end 0 = .ok (.aload_n 0, 1) := by decide +kernel
theorem d_Mod_end_1 : decode b_Mod_end 1 = .ok (.aload_n 0, 1) := by decide +kernel
theorem d_Mod_end_2 : decode b_Mod_end 2 = .ok (.iload_n 1, 1) := by decide +kernel
theorem d_Mod_end_3 : decode b_Mod_end 3 = .ok (.invokevirtual 94, 3) := by decide +kernel
theorem d_Mod_end_6 : decode b_Mod_end 6 = .ok (.ifCond .ne 7, 3) := by decide +kernel
theorem d_Mod_end_9 : decode b_Mod_end 9 = .ok (.iconst 1, 1) := by decide +kernel
theorem d_Mod_end_10 : decode b_Mod_end 10 = .ok (.goto 4, 3) := by decide +kernel
theorem d_Mod_end_14 : decode b_Mod_end 14 = .ok (.iload_n 2, 1) := by decide +kernel
theorem d_Mod_end_15 : decode b_Mod_end 15 = .ok (.ifCond .lt 8, 3) := by decide +kernel
theorem d_Mod_end_18 : decode b_Mod_end 18 = .ok (.iload_n 2, 1) := by decide +kernel
theorem d_Mod_end_19 : decode b_Mod_end 19 = .ok (.iconst 1, 1) := by decide +kernel
theorem d_Mod_end_20 : decode b_Mod_end 20 = .ok (.if_icmp .le 7, 3) := by decide +kernel
theorem d_Mod_end_23 : decode b_Mod_end 23 = .ok (.iconst 1, 1) := by decide +kernel
theorem d_Mod_end_24 : decode b_Mod_end 24 = .ok (.goto 4, 3) := by decide +kernel
theorem d_Mod_end_27 : decode b_Mod_end 27 = .ok (.iconst 0, 1) := by decide +kernel
theorem d_Mod_end_28 : decode b_Mod_end 28 = .ok (.iconst 0, 1) := by decide +kernel
theorem d_Mod_end_29 : decode b_Mod_end 29 = .ok (.invokevirtual 79, 3) := by decide +kernel
theorem d_Mod_end_32 : decode b_Mod_end 32 = .ok (.ifCond .eq 5, 3) := by decide +kernel
theorem d_Mod_end_35 : decode b_Mod_end 35 = .ok (.iconst 0, 1) := by decide +kernel
theorem d_Mod_end_36 : decode b_Mod_end 36 = .ok (.ireturn, 1) := by decide +kernel
theorem d_Mod_faces_0 : decode b_Mod_faces 0 = .ok (.aload_n 0, 1) := by decide +kernel
theorem d_Mod_faces_1 : decode b_Mod_faces 1 = .ok (.aload_n 0, 1) := by decide +kernel
theorem d_Mod_faces_2 : decode b_Mod_faces 2 = .ok (.aload_n 0, 1) := by decide +kernel
theorem d_Mod_faces_3 : decode b_Mod_faces 3 = .ok (.invokevirtual 103, 3) := by decide +kernel
theorem d_Mod_faces_6 : decode b_Mod_faces 6 = .ok (.invokevirtual 151, 3) := by decide +kernel
theorem d_Mod_faces_9 : decode b_Mod_faces 9 = .ok (.ifCond .ne 7, 3) := by decide +kernel
theorem d_Mod_faces_16 : decode b_Mod_faces 16 = .ok (.iconst 0, 1) := by decide +kernel
theorem d_Mod_faces_17 : decode b_Mod_faces 17 = .ok (.iconst 0, 1) := by decide +kernel
theorem d_Mod_faces_18 : decode b_Mod_faces 18 = .ok (.iconst 0, 1) := by decide +kernel
theorem d_Mod_faces_19 : decode b_Mod_faces 19 = .ok (.invokevirtual 79, 3) := by decide +kernel
theorem d_Mod_faces_22 : decode b_Mod_faces 22 = .ok (.ifCond .eq 5, 3) := by decide +kernel
theorem d_Mod_faces_27 : decode b_Mod_faces 27 = .ok (.aload_n 0, 1) := by decide +kernel
theorem d_Mod_faces_28 : decode b_Mod_faces 28 = .ok (.invokevirtual 97, 3) := by decide +kernel
theorem d_Mod_faces_31 : decode b_Mod_faces 31 = .ok (.aload_n 0, 1) := by decide +kernel
theorem d_Mod_faces_32 : decode b_Mod_faces 32 = .ok (.invokevirtual 83, 3) := by decide +kernel
theorem d_Mod_faces_35 : decode b_Mod_faces 35 = .ok (.isub, 1) := by decide +kernel
theorem d_Mod_faces_36 : decode b_Mod_faces 36 = .ok (.aload_n 0, 1) := by decide +kernel
theorem d_Mod_faces_37 : decode b_Mod_faces 37 = .ok (.iconst (-1), 1) := by decide +kernel
theorem d_Mod_faces_38 : decode b_Mod_faces 38 = .ok (.iconst (-1), 1) := by decide +kernel
theorem d_Mod_faces_39 : decode b_Mod_faces 39 = .ok (.invokevirtual 170, 3) := by decide +kernel
theorem d_Mod_faces_42 : decode b_Mod_faces 42 = .ok (.iadd, 1) := by decide +kernel
theorem d_Mod_faces_43 : decode b_Mod_faces 43 = .ok (.iconst 1, 1) := by decide +kernel
theorem d_Mod_faces_44 : decode b_Mod_faces 44 = .ok (.iadd, 1) := by decide +kernel
theorem d_Mod_faces_45 : decode b_Mod_faces 45 = .ok (.ireturn, 1) := by decide +kernel
theorem d_Mod_firstFree_0 : decode b_Mod_firstFree 0 = .ok (.iconst 0, 1) := by decide +kernel
theorem d_Mod_firstFree_1 : decode b_Mod_firstFree 1 = .ok (.istore_n 1, 1) := by decide +kernel
theorem d_Mod_firstFree_2 : decode b_Mod_firstFree 2 = .ok (.iload_n 1, 1) := by decide +kernel
theorem d_Mod_firstFree_3 : decode b_Mod_firstFree 3 = .ok (.bipush 24, 2) := by decide +kernel
theorem d_Mod_firstFree_5 : decode b_Mod_firstFree 5 = .ok (.if_icmp .ge 18, 3) := by decide +kernel
theorem d_Mod_firstFree_8 : decode b_Mod_firstFree 8 = .ok (.aload_n 0, 1) := by decide +kernel
theorem d_Mod_firstFree_9 : decode b_Mod_firstFree 9 = .ok (.getfield 13, 3) := by decide +kernel
theorem d_Mod_firstFree_12 : decode b_Mod_firstFree 12 = .ok (.iload_n 1, 1) := by decide +kernel
theorem d_Mod_firstFree_13 : decode b_Mod_firstFree 13 = .ok (.iaload, 1) := by decide +kernel
theorem d_Mod_firstFree_14 : decode b_Mod_firstFree 14 = .ok (.ifCond .lt 9, 3) := by decide +kernel
theorem d_Mod_firstFree_23 : decode b_Mod_firstFree 23 = .ok (.iload_n 1, 1) := by decide +kernel
theorem d_Mod_firstFree_24 : decode b_Mod_firstFree 24 = .ok (.ireturn, 1) := by decide +kernel
theorem d_Mod_flat_0 : decode b_Mod_flat 0 = .ok (.aload_n 0, 1) := by decide +kernel
theorem d_Mod_flat_1 : decode b_Mod_flat 1 = .ok (.iconst 0, 1) := by decide +kernel
theorem d_Mod_flat_2 : decode b_Mod_flat 2 = .ok (.putfield 68, 3) := by decide +kernel
theorem d_Mod_flat_5 : decode b_Mod_flat 5 = .ok (.aload_n 0, 1) := by decide +kernel
theorem d_Mod_flat_6 : decode b_Mod_flat 6 = .ok (.invokevirtual 197, 3) := by decide +kernel
theorem d_Mod_flat_9 : decode b_Mod_flat 9 = .ok (.ifCond .ne 14, 3) := by decide +kernel
theorem d_Mod_flat_12 : decode b_Mod_flat 12 = .ok (.aload_n 0, 1) := by decide +kernel
theorem d_Mod_flat_13 : decode b_Mod_flat 13 = .ok (.invokevirtual 203, 3) := by decide +kernel
theorem d_Mod_flat_16 : decode b_Mod_flat 16 = .ok (.ifCond .ne 7, 3) := by decide +kernel
theorem d_Mod_flat_19 : decode b_Mod_flat 19 = .ok (.iconst 1, 1) := by decide +kernel
theorem d_Mod_flat_20 : decode b_Mod_flat 20 = .ok (.goto 4, 3) := by decide +kernel
theorem d_Mod_flat_24 : decode b_Mod_flat 24 = .ok (.ireturn, 1) := by decide +kernel
theorem d_Mod_hinge_0 : decode b_Mod_hinge 0 = .ok (.aload_n 0, 1) := by decide +kernel
theorem d_Mod_hinge_1 : decode b_Mod_hinge 1 = .ok (.aload_n 0, 1) := by decide +kernel
theorem d_Mod_hinge_2 : decode b_Mod_hinge 2 = .ok (.iload_n 1, 1) := by decide +kernel
theorem d_Mod_hinge_3 : decode b_Mod_hinge 3 = .ok (.invokevirtual 76, 3) := by decide +kernel
theorem d_Mod_hinge_6 : decode b_Mod_hinge 6 = .ok (.ifCond .ne 7, 3) := by decide +kernel
theorem d_Mod_hinge_9 : decode b_Mod_hinge 9 = .ok (.iconst 1, 1) := by decide +kernel
theorem d_Mod_hinge_10 : decode b_Mod_hinge 10 = .ok (.goto 4, 3) := by decide +kernel
theorem d_Mod_hinge_14 : decode b_Mod_hinge 14 = .ok (.iconst 0, 1) := by decide +kernel
theorem d_Mod_hinge_15 : decode b_Mod_hinge 15 = .ok (.iconst 0, 1) := by decide +kernel
theorem d_Mod_hinge_16 : decode b_Mod_hinge 16 = .ok (.invokevirtual 79, 3) := by decide +kernel
theorem d_Mod_hinge_19 : decode b_Mod_hinge 19 = .ok (.ifCond .ne 22, 3) := by decide +kernel
theorem d_Mod_hinge_41 : decode b_Mod_hinge 41 = .ok (.iconst 0, 1) := by decide +kernel
theorem d_Mod_hinge_42 : decode b_Mod_hinge 42 = .ok (.ireturn, 1) := by decide +kernel
theorem d_Mod_isDrawable_0 : decode b_Mod_isDrawable 0 = .ok (.aload_n 0, 1) := by decide +kernel
theorem d_Mod_isDrawable_1 : decode b_Mod_isDrawable 1 = .ok (.iload_n 1, 1) := by decide +kernel
theorem d_Mod_isDrawable_2 : decode b_Mod_isDrawable 2 = .ok (.invokevirtual 144, 3) := by decide +kernel
theorem d_Mod_isDrawable_5 : decode b_Mod_isDrawable 5 = .ok (.aload_n 0, 1) := by decide +kernel
theorem d_Mod_isDrawable_6 : decode b_Mod_isDrawable 6 = .ok (.invokevirtual 147, 3) := by decide +kernel
theorem d_Mod_isDrawable_9 : decode b_Mod_isDrawable 9 = .ok (.ireturn, 1) := by decide +kernel
theorem d_Mod_isFlat_0 : decode b_Mod_isFlat 0 = .ok (.aload_n 0, 1) := by decide +kernel
theorem d_Mod_isFlat_1 : decode b_Mod_isFlat 1 = .ok (.invokevirtual 138, 3) := by decide +kernel
theorem d_Mod_isFlat_4 : decode b_Mod_isFlat 4 = .ok (.iconst 1, 1) := by decide +kernel
theorem d_Mod_isFlat_5 : decode b_Mod_isFlat 5 = .ok (.istore_n 1, 1) := by decide +kernel
theorem d_Mod_isFlat_6 : decode b_Mod_isFlat 6 = .ok (.iconst 0, 1) := by decide +kernel
theorem d_Mod_isFlat_7 : decode b_Mod_isFlat 7 = .ok (.istore_n 2, 1) := by decide +kernel
theorem d_Mod_isFlat_8 : decode b_Mod_isFlat 8 = .ok (.iload_n 2, 1) := by decide +kernel
