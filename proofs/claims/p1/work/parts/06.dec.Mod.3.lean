theorem d_Mod_isFlat_9 : decode b_Mod_isFlat 9 = .ok (.aload_n 0, 1) := by decide +kernel
theorem d_Mod_isFlat_10 : decode b_Mod_isFlat 10 = .ok (.getfield 106, 3) := by decide +kernel
theorem d_Mod_isFlat_13 : decode b_Mod_isFlat 13 = .ok (.if_icmp .ge 65, 3) := by decide +kernel
theorem d_Mod_isFlat_78 : decode b_Mod_isFlat 78 = .ok (.iload_n 1, 1) := by decide +kernel
theorem d_Mod_isFlat_79 : decode b_Mod_isFlat 79 = .ok (.ireturn, 1) := by decide +kernel
theorem d_Mod_isLine_0 : decode b_Mod_isLine 0 = .ok (.iload_n 1, 1) := by decide +kernel
theorem d_Mod_isLine_1 : decode b_Mod_isLine 1 = .ok (.ifCond .lt 22, 3) := by decide +kernel
theorem d_Mod_isLine_4 : decode b_Mod_isLine 4 = .ok (.iload_n 1, 1) := by decide +kernel
theorem d_Mod_isLine_5 : decode b_Mod_isLine 5 = .ok (.bipush 24, 2) := by decide +kernel
theorem d_Mod_isLine_7 : decode b_Mod_isLine 7 = .ok (.if_icmp .ge 16, 3) := by decide +kernel
theorem d_Mod_isLine_10 : decode b_Mod_isLine 10 = .ok (.aload_n 0, 1) := by decide +kernel
theorem d_Mod_isLine_11 : decode b_Mod_isLine 11 = .ok (.getfield 13, 3) := by decide +kernel
theorem d_Mod_isLine_14 : decode b_Mod_isLine 14 = .ok (.iload_n 1, 1) := by decide +kernel
theorem d_Mod_isLine_15 : decode b_Mod_isLine 15 = .ok (.iaload, 1) := by decide +kernel
theorem d_Mod_isLine_16 : decode b_Mod_isLine 16 = .ok (.ifCond .lt 7, 3) := by decide +kernel
theorem d_Mod_isLine_23 : decode b_Mod_isLine 23 = .ok (.iconst 0, 1) := by decide +kernel
theorem d_Mod_isLine_24 : decode b_Mod_isLine 24 = .ok (.ireturn, 1) := by decide +kernel
theorem d_Mod_isNode_0 : decode b_Mod_isNode 0 = .ok (.iload_n 0, 1) := by decide +kernel
theorem d_Mod_isNode_1 : decode b_Mod_isNode 1 = .ok (.ifCond .lt 13, 3) := by decide +kernel
theorem d_Mod_isNode_4 : decode b_Mod_isNode 4 = .ok (.iload_n 0, 1) := by decide +kernel
theorem d_Mod_isNode_5 : decode b_Mod_isNode 5 = .ok (.bipush 10, 2) := by decide +kernel
theorem d_Mod_isNode_7 : decode b_Mod_isNode 7 = .ok (.if_icmp .ge 7, 3) := by decide +kernel
theorem d_Mod_isNode_10 : decode b_Mod_isNode 10 = .ok (.iconst 1, 1) := by decide +kernel
theorem d_Mod_isNode_11 : decode b_Mod_isNode 11 = .ok (.goto 4, 3) := by decide +kernel
theorem d_Mod_isNode_14 : decode b_Mod_isNode 14 = .ok (.iconst 0, 1) := by decide +kernel
theorem d_Mod_isNode_15 : decode b_Mod_isNode 15 = .ok (.ireturn, 1) := by decide +kernel
theorem d_Mod_isThere_0 : decode b_Mod_isThere 0 = .ok (.iload_n 1, 1) := by decide +kernel
theorem d_Mod_isThere_1 : decode b_Mod_isThere 1 = .ok (.invokestatic 72, 3) := by decide +kernel
theorem d_Mod_isThere_4 : decode b_Mod_isThere 4 = .ok (.ifCond .eq 16, 3) := by decide +kernel
theorem d_Mod_isThere_7 : decode b_Mod_isThere 7 = .ok (.aload_n 0, 1) := by decide +kernel
theorem d_Mod_isThere_8 : decode b_Mod_isThere 8 = .ok (.getfield 7, 3) := by decide +kernel
theorem d_Mod_isThere_11 : decode b_Mod_isThere 11 = .ok (.iload_n 1, 1) := by decide +kernel
theorem d_Mod_isThere_12 : decode b_Mod_isThere 12 = .ok (.baload, 1) := by decide +kernel
theorem d_Mod_isThere_13 : decode b_Mod_isThere 13 = .ok (.ifCond .eq 7, 3) := by decide +kernel
theorem d_Mod_isThere_20 : decode b_Mod_isThere 20 = .ok (.iconst 0, 1) := by decide +kernel
theorem d_Mod_isThere_21 : decode b_Mod_isThere 21 = .ok (.ireturn, 1) := by decide +kernel
theorem d_Mod_lay_0 : decode b_Mod_lay 0 = .ok (.aload_n 0, 1) := by decide +kernel
theorem d_Mod_lay_1 : decode b_Mod_lay 1 = .ok (.iconst 0, 1) := by decide +kernel
theorem d_Mod_lay_2 : decode b_Mod_lay 2 = .ok (.putfield 106, 3) := by decide +kernel
theorem d_Mod_lay_5 : decode b_Mod_lay 5 = .ok (.iconst 0, 1) := by decide +kernel
theorem d_Mod_lay_6 : decode b_Mod_lay 6 = .ok (.istore_n 2, 1) := by decide +kernel
theorem d_Mod_lay_7 : decode b_Mod_lay 7 = .ok (.iload_n 2, 1) := by decide +kernel
theorem d_Mod_lay_8 : decode b_Mod_lay 8 = .ok (.bipush 24, 2) := by decide +kernel
theorem d_Mod_lay_10 : decode b_Mod_lay 10 = .ok (.if_icmp .ge 43, 3) := by decide +kernel
theorem d_Mod_lay_13 : decode b_Mod_lay 13 = .ok (.iload_n 1, 1) := by decide +kernel
theorem d_Mod_lay_14 : decode b_Mod_lay 14 = .ok (.iload_n 2, 1) := by decide +kernel
theorem d_Mod_lay_15 : decode b_Mod_lay 15 = .ok (.ishr, 1) := by decide +kernel
theorem d_Mod_lay_16 : decode b_Mod_lay 16 = .ok (.iconst 1, 1) := by decide +kernel
theorem d_Mod_lay_17 : decode b_Mod_lay 17 = .ok (.iand, 1) := by decide +kernel
theorem d_Mod_lay_18 : decode b_Mod_lay 18 = .ok (.iconst 1, 1) := by decide +kernel
theorem d_Mod_lay_19 : decode b_Mod_lay 19 = .ok (.if_icmp .ne 28, 3) := by decide +kernel
theorem d_Mod_lay_47 : decode b_Mod_lay 47 = .ok (.iinc 2 1, 3) := by decide +kernel
theorem d_Mod_lay_50 : decode b_Mod_lay 50 = .ok (.goto (-43), 3) := by decide +kernel
theorem d_Mod_lay_53 : decode b_Mod_lay 53 = .ok (.return_, 1) := by decide +kernel
theorem d_Mod_leastColours_0 : decode b_Mod_leastColours 0 = .ok (.iconst 0, 1) := by decide +kernel
theorem d_Mod_leastColours_1 : decode b_Mod_leastColours 1 = .ok (.istore_n 1, 1) := by decide +kernel
theorem d_Mod_leastColours_2 : decode b_Mod_leastColours 2 = .ok (.aload_n 0, 1) := by decide +kernel
theorem d_Mod_leastColours_3 : decode b_Mod_leastColours 3 = .ok (.iload_n 1, 1) := by decide +kernel
theorem d_Mod_leastColours_4 : decode b_Mod_leastColours 4 = .ok (.invokevirtual 179, 3) := by decide +kernel
theorem d_Mod_leastColours_7 : decode b_Mod_leastColours 7 = .ok (.ifCond .ne 9, 3) := by decide +kernel
theorem d_Mod_leastColours_16 : decode b_Mod_leastColours 16 = .ok (.iload_n 1, 1) := by decide +kernel
theorem d_Mod_leastColours_17 : decode b_Mod_leastColours 17 = .ok (.ireturn, 1) := by decide +kernel
theorem d_Mod_line_0 : decode b_Mod_line 0 = .ok (.aload_n 0, 1) := by decide +kernel
theorem d_Mod_line_1 : decode b_Mod_line 1 = .ok (.iload_n 1, 1) := by decide +kernel
theorem d_Mod_line_2 : decode b_Mod_line 2 = .ok (.invokevirtual 76, 3) := by decide +kernel
theorem d_Mod_line_5 : decode b_Mod_line 5 = .ok (.ifCond .eq 11, 3) := by decide +kernel
theorem d_Mod_line_16 : decode b_Mod_line 16 = .ok (.iconst 1, 1) := by decide +kernel
theorem d_Mod_line_17 : decode b_Mod_line 17 = .ok (.goto 4, 3) := by decide +kernel
theorem d_Mod_line_21 : decode b_Mod_line 21 = .ok (.istore_n 3, 1) := by decide +kernel
theorem d_Mod_line_22 : decode b_Mod_line 22 = .ok (.aload_n 0, 1) := by decide +kernel
theorem d_Mod_line_23 : decode b_Mod_line 23 = .ok (.iload_n 3, 1) := by decide +kernel
theorem d_Mod_line_24 : decode b_Mod_line 24 = .ok (.iload_n 1, 1) := by decide +kernel
theorem d_Mod_line_25 : decode b_Mod_line 25 = .ok (.iload_n 2, 1) := by decide +kernel
theorem d_Mod_line_26 : decode b_Mod_line 26 = .ok (.if_icmp .ne 7, 3) := by decide +kernel
theorem d_Mod_line_29 : decode b_Mod_line 29 = .ok (.iconst 1, 1) := by decide +kernel
theorem d_Mod_line_30 : decode b_Mod_line 30 = .ok (.goto 4, 3) := by decide +kernel
theorem d_Mod_line_33 : decode b_Mod_line 33 = .ok (.iconst 0, 1) := by decide +kernel
theorem d_Mod_line_34 : decode b_Mod_line 34 = .ok (.aload_n 0, 1) := by decide +kernel
theorem d_Mod_line_35 : decode b_Mod_line 35 = .ok (.iload_n 1, 1) := by decide +kernel
theorem d_Mod_line_36 : decode b_Mod_line 36 = .ok (.iload_n 2, 1) := by decide +kernel
theorem d_Mod_line_37 : decode b_Mod_line 37 = .ok (.invokevirtual 87, 3) := by decide +kernel
theorem d_Mod_line_40 : decode b_Mod_line 40 = .ok (.ifCond .ge 12, 3) := by decide +kernel
theorem d_Mod_line_43 : decode b_Mod_line 43 = .ok (.aload_n 0, 1) := by decide +kernel
theorem d_Mod_line_44 : decode b_Mod_line 44 = .ok (.invokevirtual 91, 3) := by decide +kernel
theorem d_Mod_line_47 : decode b_Mod_line 47 = .ok (.bipush 24, 2) := by decide +kernel
theorem d_Mod_line_49 : decode b_Mod_line 49 = .ok (.if_icmp .ne 7, 3) := by decide +kernel
theorem d_Mod_line_56 : decode b_Mod_line 56 = .ok (.iconst 0, 1) := by decide +kernel
theorem d_Mod_line_57 : decode b_Mod_line 57 = .ok (.invokevirtual 79, 3) := by decide +kernel
theorem d_Mod_line_60 : decode b_Mod_line 60 = .ok (.ifCond .eq 5, 3) := by decide +kernel
theorem d_Mod_line_63 : decode b_Mod_line 63 = .ok (.iconst 0, 1) := by decide +kernel
theorem d_Mod_line_64 : decode b_Mod_line 64 = .ok (.ireturn, 1) := by decide +kernel
theorem d_Mod_lineBetween_0 : decode b_Mod_lineBetween 0 = .ok (.iconst (-1), 1) := by decide +kernel
theorem d_Mod_lineBetween_1 : decode b_Mod_lineBetween 1 = .ok (.istore_n 3, 1) := by decide +kernel
theorem d_Mod_lineBetween_2 : decode b_Mod_lineBetween 2 = .ok (.iconst 0, 1) := by decide +kernel
theorem d_Mod_lineBetween_3 : decode b_Mod_lineBetween 3 = .ok (.istore 4, 2) := by decide +kernel
theorem d_Mod_lineBetween_5 : decode b_Mod_lineBetween 5 = .ok (.iload 4, 2) := by decide +kernel
theorem d_Mod_lineBetween_7 : decode b_Mod_lineBetween 7 = .ok (.bipush 24, 2) := by decide +kernel
theorem d_Mod_lineBetween_9 : decode b_Mod_lineBetween 9 = .ok (.if_icmp .ge 70, 3) := by decide +kernel
theorem d_Mod_lineBetween_12 : decode b_Mod_lineBetween 12 = .ok (.aload_n 0, 1) := by decide +kernel
theorem d_Mod_lineBetween_13 : decode b_Mod_lineBetween 13 = .ok (.getfield 13, 3) := by decide +kernel
theorem d_Mod_lineBetween_16 : decode b_Mod_lineBetween 16 = .ok (.iload 4, 2) := by decide +kernel
theorem d_Mod_lineBetween_18 : decode b_Mod_lineBetween 18 = .ok (.iaload, 1) := by decide +kernel
theorem d_Mod_lineBetween_19 : decode b_Mod_lineBetween 19 = .ok (.ifCond .lt 52, 3) := by decide +kernel
theorem d_Mod_lineBetween_71 : decode b_Mod_lineBetween 71 = .ok (.iload_n 3, 1) := by decide +kernel
theorem d_Mod_lineBetween_72 : decode b_Mod_lineBetween 72 = .ok (.istore_n 3, 1) := by decide +kernel
theorem d_Mod_lineBetween_73 : decode b_Mod_lineBetween 73 = .ok (.iinc 4 1, 3) := by decide +kernel
theorem d_Mod_lineBetween_76 : decode b_Mod_lineBetween 76 = .ok (.goto (-71), 3) := by decide +kernel
theorem d_Mod_lineBetween_79 : decode b_Mod_lineBetween 79 = .ok (.iload_n 3, 1) := by decide +kernel
theorem d_Mod_lineBetween_80 : decode b_Mod_lineBetween 80 = .ok (.ireturn, 1) := by decide +kernel
theorem d_Mod_lineBits_0 : decode b_Mod_lineBits 0 = .ok (.iconst 0, 1) := by decide +kernel
theorem d_Mod_lineBits_1 : decode b_Mod_lineBits 1 = .ok (.istore_n 1, 1) := by decide +kernel
theorem d_Mod_lineBits_2 : decode b_Mod_lineBits 2 = .ok (.iconst 0, 1) := by decide +kernel
theorem d_Mod_lineBits_3 : decode b_Mod_lineBits 3 = .ok (.istore_n 2, 1) := by decide +kernel
theorem d_Mod_lineBits_4 : decode b_Mod_lineBits 4 = .ok (.iload_n 2, 1) := by decide +kernel
theorem d_Mod_lineBits_5 : decode b_Mod_lineBits 5 = .ok (.bipush 24, 2) := by decide +kernel
theorem d_Mod_lineBits_7 : decode b_Mod_lineBits 7 = .ok (.if_icmp .ge 28, 3) := by decide +kernel
theorem d_Mod_lineBits_10 : decode b_Mod_lineBits 10 = .ok (.aload_n 0, 1) := by decide +kernel
theorem d_Mod_lineBits_11 : decode b_Mod_lineBits 11 = .ok (.getfield 13, 3) := by decide +kernel
theorem d_Mod_lineBits_14 : decode b_Mod_lineBits 14 = .ok (.iload_n 2, 1) := by decide +kernel
theorem d_Mod_lineBits_15 : decode b_Mod_lineBits 15 = .ok (.iaload, 1) := by decide +kernel
theorem d_Mod_lineBits_16 : decode b_Mod_lineBits 16 = .ok (.ifCond .lt 11, 3) := by decide +kernel
theorem d_Mod_lineBits_27 : decode b_Mod_lineBits 27 = .ok (.iload_n 1, 1) := by decide +kernel
theorem d_Mod_lineBits_28 : decode b_Mod_lineBits 28 = .ok (.istore_n 1, 1) := by decide +kernel
theorem d_Mod_lineBits_29 : decode b_Mod_lineBits 29 = .ok (.iinc 2 1, 3) := by decide +kernel
theorem d_Mod_lineBits_32 : decode b_Mod_lineBits 32 = .ok (.goto (-28), 3) := by decide +kernel
theorem d_Mod_lineBits_35 : decode b_Mod_lineBits 35 = .ok (.iload_n 1, 1) := by decide +kernel
theorem d_Mod_lineBits_36 : decode b_Mod_lineBits 36 = .ok (.ireturn, 1) := by decide +kernel
theorem d_Mod_lines_0 : decode b_Mod_lines 0 = .ok (.aload_n 0, 1) := by decide +kernel
theorem d_Mod_lines_1 : decode b_Mod_lines 1 = .ok (.iconst 0, 1) := by decide +kernel
theorem d_Mod_lines_2 : decode b_Mod_lines 2 = .ok (.putfield 68, 3) := by decide +kernel
theorem d_Mod_lines_5 : decode b_Mod_lines 5 = .ok (.aload_n 0, 1) := by decide +kernel
theorem d_Mod_lines_6 : decode b_Mod_lines 6 = .ok (.invokevirtual 103, 3) := by decide +kernel
theorem d_Mod_lines_9 : decode b_Mod_lines 9 = .ok (.ireturn, 1) := by decide +kernel
theorem d_Mod_meetings_0 : decode b_Mod_meetings 0 = .ok (.iconst 0, 1) := by decide +kernel
theorem d_Mod_meetings_1 : decode b_Mod_meetings 1 = .ok (.istore_n 1, 1) := by decide +kernel
theorem d_Mod_meetings_2 : decode b_Mod_meetings 2 = .ok (.iconst 0, 1) := by decide +kernel
theorem d_Mod_meetings_3 : decode b_Mod_meetings 3 = .ok (.istore_n 2, 1) := by decide +kernel
theorem d_Mod_meetings_4 : decode b_Mod_meetings 4 = .ok (.iload_n 2, 1) := by decide +kernel
theorem d_Mod_meetings_5 : decode b_Mod_meetings 5 = .ok (.bipush 24, 2) := by decide +kernel
theorem d_Mod_meetings_7 : decode b_Mod_meetings 7 = .ok (.if_icmp .ge 60, 3) := by decide +kernel
theorem d_Mod_meetings_10 : decode b_Mod_meetings 10 = .ok (.iload_n 2, 1) := by decide +kernel
theorem d_Mod_meetings_11 : decode b_Mod_meetings 11 = .ok (.iconst 1, 1) := by decide +kernel
theorem d_Mod_meetings_12 : decode b_Mod_meetings 12 = .ok (.iadd, 1) := by decide +kernel
theorem d_Mod_meetings_13 : decode b_Mod_meetings 13 = .ok (.istore_n 3, 1) := by decide +kernel
theorem d_Mod_meetings_14 : decode b_Mod_meetings 14 = .ok (.iload_n 3, 1) := by decide +kernel
theorem d_Mod_meetings_15 : decode b_Mod_meetings 15 = .ok (.bipush 24, 2) := by decide +kernel
theorem d_Mod_meetings_17 : decode b_Mod_meetings 17 = .ok (.if_icmp .ge 44, 3) := by decide +kernel
theorem d_Mod_meetings_20 : decode b_Mod_meetings 20 = .ok (.aload_n 0, 1) := by decide +kernel
theorem d_Mod_meetings_21 : decode b_Mod_meetings 21 = .ok (.getfield 13, 3) := by decide +kernel
theorem d_Mod_meetings_24 : decode b_Mod_meetings 24 = .ok (.iload_n 2, 1) := by decide +kernel
theorem d_Mod_meetings_25 : decode b_Mod_meetings 25 = .ok (.iaload, 1) := by decide +kernel
theorem d_Mod_meetings_26 : decode b_Mod_meetings 26 = .ok (.ifCond .lt 27, 3) := by decide +kernel
theorem d_Mod_meetings_53 : decode b_Mod_meetings 53 = .ok (.iload_n 1, 1) := by decide +kernel
theorem d_Mod_meetings_54 : decode b_Mod_meetings 54 = .ok (.istore_n 1, 1) := by decide +kernel
theorem d_Mod_meetings_55 : decode b_Mod_meetings 55 = .ok (.iinc 3 1, 3) := by decide +kernel
theorem d_Mod_meetings_58 : decode b_Mod_meetings 58 = .ok (.goto (-44), 3) := by decide +kernel
theorem d_Mod_meetings_61 : decode b_Mod_meetings 61 = .ok (.iinc 2 1, 3) := by decide +kernel
theorem d_Mod_meetings_64 : decode b_Mod_meetings 64 = .ok (.goto (-60), 3) := by decide +kernel
theorem d_Mod_meetings_67 : decode b_Mod_meetings 67 = .ok (.iload_n 1, 1) := by decide +kernel
theorem d_Mod_meetings_68 : decode b_Mod_meetings 68 = .ok (.ireturn, 1) := by decide +kernel
theorem d_Mod_meets_0 : decode b_Mod_meets 0 = .ok (.aload_n 0, 1) := by decide +kernel
theorem d_Mod_meets_1 : decode b_Mod_meets 1 = .ok (.aload_n 0, 1) := by decide +kernel
theorem d_Mod_meets_2 : decode b_Mod_meets 2 = .ok (.iload_n 1, 1) := by decide +kernel
theorem d_Mod_meets_3 : decode b_Mod_meets 3 = .ok (.invokevirtual 94, 3) := by decide +kernel
theorem d_Mod_meets_6 : decode b_Mod_meets 6 = .ok (.ifCond .eq 11, 3) := by decide +kernel
theorem d_Mod_meets_17 : decode b_Mod_meets 17 = .ok (.iconst 1, 1) := by decide +kernel
theorem d_Mod_meets_18 : decode b_Mod_meets 18 = .ok (.goto 4, 3) := by decide +kernel
theorem d_Mod_meets_22 : decode b_Mod_meets 22 = .ok (.iload_n 1, 1) := by decide +kernel
theorem d_Mod_meets_23 : decode b_Mod_meets 23 = .ok (.iload_n 2, 1) := by decide +kernel
theorem d_Mod_meets_24 : decode b_Mod_meets 24 = .ok (.if_icmp .ne 7, 3) := by decide +kernel
theorem d_Mod_meets_27 : decode b_Mod_meets 27 = .ok (.iconst 1, 1) := by decide +kernel
theorem d_Mod_meets_28 : decode b_Mod_meets 28 = .ok (.goto 4, 3) := by decide +kernel
theorem d_Mod_meets_31 : decode b_Mod_meets 31 = .ok (.iconst 0, 1) := by decide +kernel
theorem d_Mod_meets_32 : decode b_Mod_meets 32 = .ok (.iconst 0, 1) := by decide +kernel
theorem d_Mod_meets_33 : decode b_Mod_meets 33 = .ok (.invokevirtual 79, 3) := by decide +kernel
theorem d_Mod_meets_36 : decode b_Mod_meets 36 = .ok (.ifCond .ne 16, 3) := by decide +kernel
theorem d_Mod_meets_52 : decode b_Mod_meets 52 = .ok (.iconst 0, 1) := by decide +kernel
theorem d_Mod_meets_53 : decode b_Mod_meets 53 = .ok (.ireturn, 1) := by decide +kernel
theorem d_Mod_node_0 : decode b_Mod_node 0 = .ok (.aload_n 0, 1) := by decide +kernel
theorem d_Mod_node_1 : decode b_Mod_node 1 = .ok (.iload_n 1, 1) := by decide +kernel
theorem d_Mod_node_2 : decode b_Mod_node 2 = .ok (.invokestatic 72, 3) := by decide +kernel
theorem d_Mod_node_5 : decode b_Mod_node 5 = .ok (.ifCond .ne 7, 3) := by decide +kernel
theorem d_Mod_node_8 : decode b_Mod_node 8 = .ok (.iconst 1, 1) := by decide +kernel
theorem d_Mod_node_9 : decode b_Mod_node 9 = .ok (.goto 4, 3) := by decide +kernel
theorem d_Mod_node_12 : decode b_Mod_node 12 = .ok (.iconst 0, 1) := by decide +kernel
theorem d_Mod_node_13 : decode b_Mod_node 13 = .ok (.aload_n 0, 1) := by decide +kernel
theorem d_Mod_node_14 : decode b_Mod_node 14 = .ok (.iload_n 1, 1) := by decide +kernel
theorem d_Mod_node_15 : decode b_Mod_node 15 = .ok (.invokevirtual 76, 3) := by decide +kernel
theorem d_Mod_node_18 : decode b_Mod_node 18 = .ok (.iconst 0, 1) := by decide +kernel
theorem d_Mod_node_19 : decode b_Mod_node 19 = .ok (.invokevirtual 79, 3) := by decide +kernel
theorem d_Mod_node_22 : decode b_Mod_node 22 = .ok (.ifCond .eq 5, 3) := by decide +kernel
theorem d_Mod_node_25 : decode b_Mod_node 25 = .ok (.iconst 0, 1) := by decide +kernel
theorem d_Mod_node_26 : decode b_Mod_node 26 = .ok (.ireturn, 1) := by decide +kernel
theorem d_Mod_node_27 : decode b_Mod_node 27 = .ok (.aload_n 0, 1) := by decide +kernel
theorem d_Mod_node_28 : decode b_Mod_node 28 = .ok (.getfield 7, 3) := by decide +kernel
theorem d_Mod_node_31 : decode b_Mod_node 31 = .ok (.iload_n 1, 1) := by decide +kernel
theorem d_Mod_node_32 : decode b_Mod_node 32 = .ok (.iconst 1, 1) := by decide +kernel
theorem d_Mod_node_33 : decode b_Mod_node 33 = .ok (.bastore, 1) := by decide +kernel
theorem d_Mod_node_34 : decode b_Mod_node 34 = .ok (.aload_n 0, 1) := by decide +kernel
theorem d_Mod_node_35 : decode b_Mod_node 35 = .ok (.invokevirtual 83, 3) := by decide +kernel
theorem d_Mod_node_38 : decode b_Mod_node 38 = .ok (.ireturn, 1) := by decide +kernel
theorem d_Mod_nodeBits_0 : decode b_Mod_nodeBits 0 = .ok (.iconst 0, 1) := by decide +kernel
theorem d_Mod_nodeBits_1 : decode b_Mod_nodeBits 1 = .ok (.istore_n 1, 1) := by decide +kernel
theorem d_Mod_nodeBits_2 : decode b_Mod_nodeBits 2 = .ok (.iconst 0, 1) := by decide +kernel
theorem d_Mod_nodeBits_3 : decode b_Mod_nodeBits 3 = .ok (.istore_n 2, 1) := by decide +kernel
theorem d_Mod_nodeBits_4 : decode b_Mod_nodeBits 4 = .ok (.iload_n 2, 1) := by decide +kernel
theorem d_Mod_nodeBits_5 : decode b_Mod_nodeBits 5 = .ok (.bipush 10, 2) := by decide +kernel
theorem d_Mod_nodeBits_7 : decode b_Mod_nodeBits 7 = .ok (.if_icmp .ge 28, 3) := by decide +kernel
theorem d_Mod_nodeBits_10 : decode b_Mod_nodeBits 10 = .ok (.aload_n 0, 1) := by decide +kernel
theorem d_Mod_nodeBits_11 : decode b_Mod_nodeBits 11 = .ok (.getfield 7, 3) := by decide +kernel
theorem d_Mod_nodeBits_14 : decode b_Mod_nodeBits 14 = .ok (.iload_n 2, 1) := by decide +kernel
theorem d_Mod_nodeBits_15 : decode b_Mod_nodeBits 15 = .ok (.baload, 1) := by decide +kernel
theorem d_Mod_nodeBits_16 : decode b_Mod_nodeBits 16 = .ok (.ifCond .eq 11, 3) := by decide +kernel
theorem d_Mod_nodeBits_27 : decode b_Mod_nodeBits 27 = .ok (.iload_n 1, 1) := by decide +kernel
theorem d_Mod_nodeBits_28 : decode b_Mod_nodeBits 28 = .ok (.istore_n 1, 1) := by decide +kernel
theorem d_Mod_nodeBits_29 : decode b_Mod_nodeBits 29 = .ok (.iinc 2 1, 3) := by decide +kernel
theorem d_Mod_nodeBits_32 : decode b_Mod_nodeBits 32 = .ok (.goto (-28), 3) := by decide +kernel
theorem d_Mod_nodeBits_35 : decode b_Mod_nodeBits 35 = .ok (.iload_n 1, 1) := by decide +kernel
theorem d_Mod_nodeBits_36 : decode b_Mod_nodeBits 36 = .ok (.ireturn, 1) := by decide +kernel
theorem d_Mod_nodes_0 : decode b_Mod_nodes 0 = .ok (.aload_n 0, 1) := by decide +kernel
theorem d_Mod_nodes_1 : decode b_Mod_nodes 1 = .ok (.iconst 0, 1) := by decide +kernel
theorem d_Mod_nodes_2 : decode b_Mod_nodes 2 = .ok (.putfield 68, 3) := by decide +kernel
theorem d_Mod_nodes_5 : decode b_Mod_nodes 5 = .ok (.aload_n 0, 1) := by decide +kernel
theorem d_Mod_nodes_6 : decode b_Mod_nodes 6 = .ok (.invokevirtual 100, 3) := by decide +kernel
theorem d_Mod_nodes_9 : decode b_Mod_nodes 9 = .ok (.ireturn, 1) := by decide +kernel
theorem d_Mod_pattern_0 : decode b_Mod_pattern 0 = .ok (.aload_n 0, 1) := by decide +kernel
theorem d_Mod_pattern_1 : decode b_Mod_pattern 1 = .ok (.iconst 0, 1) := by decide +kernel
theorem d_Mod_pattern_2 : decode b_Mod_pattern 2 = .ok (.putfield 68, 3) := by decide +kernel
theorem d_Mod_pattern_5 : decode b_Mod_pattern 5 = .ok (.aload_n 0, 1) := by decide +kernel
theorem d_Mod_pattern_6 : decode b_Mod_pattern 6 = .ok (.invokevirtual 157, 3) := by decide +kernel
theorem d_Mod_pattern_9 : decode b_Mod_pattern 9 = .ok (.ireturn, 1) := by decide +kernel
theorem d_Mod_patternNow_0 : decode b_Mod_patternNow 0 = .ok (.aload_n 0, 1) := by decide +kernel
theorem d_Mod_patternNow_1 : decode b_Mod_patternNow 1 = .ok (.invokevirtual 103, 3) := by decide +kernel
theorem d_Mod_patternNow_4 : decode b_Mod_patternNow 4 = .ok (.istore_n 1, 1) := by decide +kernel
theorem d_Mod_patternNow_5 : decode b_Mod_patternNow 5 = .ok (.aload_n 0, 1) := by decide +kernel
theorem d_Mod_patternNow_6 : decode b_Mod_patternNow 6 = .ok (.iload_n 1, 1) := by decide +kernel
theorem d_Mod_patternNow_7 : decode b_Mod_patternNow 7 = .ok (.invokevirtual 151, 3) := by decide +kernel
theorem d_Mod_patternNow_10 : decode b_Mod_patternNow 10 = .ok (.ifCond .eq 5, 3) := by decide +kernel
theorem d_Mod_patternNow_13 : decode b_Mod_patternNow 13 = .ok (.iconst 0, 1) := by decide +kernel
theorem d_Mod_patternNow_14 : decode b_Mod_patternNow 14 = .ok (.ireturn, 1) := by decide +kernel
theorem d_Mod_pieces_0 : decode b_Mod_pieces 0 = .ok (.aload_n 0, 1) := by decide +kernel
theorem d_Mod_pieces_1 : decode b_Mod_pieces 1 = .ok (.iconst 0, 1) := by decide +kernel
theorem d_Mod_pieces_2 : decode b_Mod_pieces 2 = .ok (.putfield 68, 3) := by decide +kernel
theorem d_Mod_pieces_5 : decode b_Mod_pieces 5 = .ok (.aload_n 0, 1) := by decide +kernel
theorem d_Mod_pieces_6 : decode b_Mod_pieces 6 = .ok (.iconst (-1), 1) := by decide +kernel
theorem d_Mod_pieces_7 : decode b_Mod_pieces 7 = .ok (.iconst (-1), 1) := by decide +kernel
theorem d_Mod_pieces_8 : decode b_Mod_pieces 8 = .ok (.invokevirtual 170, 3) := by decide +kernel
theorem d_Mod_pieces_11 : decode b_Mod_pieces 11 = .ok (.ireturn, 1) := by decide +kernel
theorem d_Mod_piecesWithout_0 : decode b_Mod_piecesWithout 0 = .ok (.iconst 0, 1) := by decide +kernel
theorem d_Mod_piecesWithout_1 : decode b_Mod_piecesWithout 1 = .ok (.istore_n 3, 1) := by decide +kernel
