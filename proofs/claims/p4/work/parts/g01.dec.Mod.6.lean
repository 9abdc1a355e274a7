theorem d_Mod_lay_16 : decode b_Mod_lay 16 = .ok (.iconst 1, 1) := by decide +kernel
theorem d_Mod_lay_17 : decode b_Mod_lay 17 = .ok (.iand, 1) := by decide +kernel
theorem d_Mod_lay_18 : decode b_Mod_lay 18 = .ok (.iconst 1, 1) := by decide +kernel
theorem d_Mod_lay_19 : decode b_Mod_lay 19 = .ok (.if_icmp .ne 28, 3) := by decide +kernel
theorem d_Mod_lay_22 : decode b_Mod_lay 22 = .ok (.aload_n 0, 1) := by decide +kernel
theorem d_Mod_lay_23 : decode b_Mod_lay 23 = .ok (.getfield 13, 3) := by decide +kernel
theorem d_Mod_lay_26 : decode b_Mod_lay 26 = .ok (.iload_n 2, 1) := by decide +kernel
theorem d_Mod_lay_27 : decode b_Mod_lay 27 = .ok (.iaload, 1) := by decide +kernel
theorem d_Mod_lay_28 : decode b_Mod_lay 28 = .ok (.ifCond .lt 19, 3) := by decide +kernel
theorem d_Mod_lay_31 : decode b_Mod_lay 31 = .ok (.aload_n 0, 1) := by decide +kernel
theorem d_Mod_lay_32 : decode b_Mod_lay 32 = .ok (.aload_n 0, 1) := by decide +kernel
theorem d_Mod_lay_33 : decode b_Mod_lay 33 = .ok (.getfield 13, 3) := by decide +kernel
theorem d_Mod_lay_36 : decode b_Mod_lay 36 = .ok (.iload_n 2, 1) := by decide +kernel
theorem d_Mod_lay_37 : decode b_Mod_lay 37 = .ok (.iaload, 1) := by decide +kernel
theorem d_Mod_lay_38 : decode b_Mod_lay 38 = .ok (.aload_n 0, 1) := by decide +kernel
theorem d_Mod_lay_39 : decode b_Mod_lay 39 = .ok (.getfield 17, 3) := by decide +kernel
theorem d_Mod_lay_42 : decode b_Mod_lay 42 = .ok (.iload_n 2, 1) := by decide +kernel
theorem d_Mod_lay_43 : decode b_Mod_lay 43 = .ok (.iaload, 1) := by decide +kernel
theorem d_Mod_lay_44 : decode b_Mod_lay 44 = .ok (.invokevirtual 109, 3) := by decide +kernel
theorem d_Mod_lay_47 : decode b_Mod_lay 47 = .ok (.iinc 2 1, 3) := by decide +kernel
theorem d_Mod_lay_50 : decode b_Mod_lay 50 = .ok (.goto (-43), 3) := by decide +kernel
theorem d_Mod_lay_53 : decode b_Mod_lay 53 = .ok (.return_, 1) := by decide +kernel
theorem d_Mod_layLine_0 : decode b_Mod_layLine 0 = .ok (.aload_n 0, 1) := by decide +kernel
theorem d_Mod_layLine_1 : decode b_Mod_layLine 1 = .ok (.getfield 26, 3) := by decide +kernel
theorem d_Mod_layLine_4 : decode b_Mod_layLine 4 = .ok (.aload_n 0, 1) := by decide +kernel
theorem d_Mod_layLine_5 : decode b_Mod_layLine 5 = .ok (.getfield 106, 3) := by decide +kernel
theorem d_Mod_layLine_8 : decode b_Mod_layLine 8 = .ok (.iload_n 1, 1) := by decide +kernel
theorem d_Mod_layLine_9 : decode b_Mod_layLine 9 = .ok (.iastore, 1) := by decide +kernel
theorem d_Mod_layLine_10 : decode b_Mod_layLine 10 = .ok (.aload_n 0, 1) := by decide +kernel
theorem d_Mod_layLine_11 : decode b_Mod_layLine 11 = .ok (.getfield 29, 3) := by decide +kernel
theorem d_Mod_layLine_14 : decode b_Mod_layLine 14 = .ok (.aload_n 0, 1) := by decide +kernel
theorem d_Mod_layLine_15 : decode b_Mod_layLine 15 = .ok (.getfield 106, 3) := by decide +kernel
theorem d_Mod_layLine_18 : decode b_Mod_layLine 18 = .ok (.iload_n 2, 1) := by decide +kernel
theorem d_Mod_layLine_19 : decode b_Mod_layLine 19 = .ok (.iastore, 1) := by decide +kernel
theorem d_Mod_layLine_20 : decode b_Mod_layLine 20 = .ok (.aload_n 0, 1) := by decide +kernel
theorem d_Mod_layLine_21 : decode b_Mod_layLine 21 = .ok (.dup, 1) := by decide +kernel
theorem d_Mod_layLine_22 : decode b_Mod_layLine 22 = .ok (.getfield 106, 3) := by decide +kernel
theorem d_Mod_layLine_25 : decode b_Mod_layLine 25 = .ok (.iconst 1, 1) := by decide +kernel
theorem d_Mod_layLine_26 : decode b_Mod_layLine 26 = .ok (.iadd, 1) := by decide +kernel
theorem d_Mod_layLine_27 : decode b_Mod_layLine 27 = .ok (.putfield 106, 3) := by decide +kernel
theorem d_Mod_layLine_30 : decode b_Mod_layLine 30 = .ok (.return_, 1) := by decide +kernel
theorem d_Mod_leaderOf_0 : decode b_Mod_leaderOf 0 = .ok (.iload_n 1, 1) := by decide +kernel
theorem d_Mod_leaderOf_1 : decode b_Mod_leaderOf 1 = .ok (.istore_n 2, 1) := by decide +kernel
theorem d_Mod_leaderOf_2 : decode b_Mod_leaderOf 2 = .ok (.aload_n 0, 1) := by decide +kernel
theorem d_Mod_leaderOf_3 : decode b_Mod_leaderOf 3 = .ok (.getfield 53, 3) := by decide +kernel
theorem d_Mod_leaderOf_6 : decode b_Mod_leaderOf 6 = .ok (.iload_n 2, 1) := by decide +kernel
theorem d_Mod_leaderOf_7 : decode b_Mod_leaderOf 7 = .ok (.iaload, 1) := by decide +kernel
theorem d_Mod_leaderOf_8 : decode b_Mod_leaderOf 8 = .ok (.iload_n 2, 1) := by decide +kernel
theorem d_Mod_leaderOf_9 : decode b_Mod_leaderOf 9 = .ok (.if_icmp .eq 13, 3) := by decide +kernel
theorem d_Mod_leaderOf_12 : decode b_Mod_leaderOf 12 = .ok (.aload_n 0, 1) := by decide +kernel
theorem d_Mod_leaderOf_13 : decode b_Mod_leaderOf 13 = .ok (.getfield 53, 3) := by decide +kernel
theorem d_Mod_leaderOf_16 : decode b_Mod_leaderOf 16 = .ok (.iload_n 2, 1) := by decide +kernel
theorem d_Mod_leaderOf_17 : decode b_Mod_leaderOf 17 = .ok (.iaload, 1) := by decide +kernel
theorem d_Mod_leaderOf_18 : decode b_Mod_leaderOf 18 = .ok (.istore_n 2, 1) := by decide +kernel
theorem d_Mod_leaderOf_19 : decode b_Mod_leaderOf 19 = .ok (.goto (-17), 3) := by decide +kernel
theorem d_Mod_leaderOf_22 : decode b_Mod_leaderOf 22 = .ok (.iload_n 2, 1) := by decide +kernel
theorem d_Mod_leaderOf_23 : decode b_Mod_leaderOf 23 = .ok (.ireturn, 1) := by decide +kernel
theorem d_Mod_leastColours_0 : decode b_Mod_leastColours 0 = .ok (.iconst 0, 1) := by decide +kernel
theorem d_Mod_leastColours_1 : decode b_Mod_leastColours 1 = .ok (.istore_n 1, 1) := by decide +kernel
theorem d_Mod_leastColours_2 : decode b_Mod_leastColours 2 = .ok (.aload_n 0, 1) := by decide +kernel
theorem d_Mod_leastColours_3 : decode b_Mod_leastColours 3 = .ok (.iload_n 1, 1) := by decide +kernel
theorem d_Mod_leastColours_4 : decode b_Mod_leastColours 4 = .ok (.invokevirtual 179, 3) := by decide +kernel
theorem d_Mod_leastColours_7 : decode b_Mod_leastColours 7 = .ok (.ifCond .ne 9, 3) := by decide +kernel
theorem d_Mod_leastColours_10 : decode b_Mod_leastColours 10 = .ok (.iinc 1 1, 3) := by decide +kernel
theorem d_Mod_leastColours_13 : decode b_Mod_leastColours 13 = .ok (.goto (-11), 3) := by decide +kernel
theorem d_Mod_leastColours_16 : decode b_Mod_leastColours 16 = .ok (.iload_n 1, 1) := by decide +kernel
theorem d_Mod_leastColours_17 : decode b_Mod_leastColours 17 = .ok (.ireturn, 1) := by decide +kernel
theorem d_Mod_liesWrongly_0 : decode b_Mod_liesWrongly 0 = .ok (.iconst 0, 1) := by decide +kernel
theorem d_Mod_liesWrongly_1 : decode b_Mod_liesWrongly 1 = .ok (.istore_n 2, 1) := by decide +kernel
theorem d_Mod_liesWrongly_2 : decode b_Mod_liesWrongly 2 = .ok (.iconst 0, 1) := by decide +kernel
theorem d_Mod_liesWrongly_3 : decode b_Mod_liesWrongly 3 = .ok (.istore_n 3, 1) := by decide +kernel
theorem d_Mod_liesWrongly_4 : decode b_Mod_liesWrongly 4 = .ok (.iload_n 3, 1) := by decide +kernel
theorem d_Mod_liesWrongly_5 : decode b_Mod_liesWrongly 5 = .ok (.bipush 24, 2) := by decide +kernel
theorem d_Mod_liesWrongly_7 : decode b_Mod_liesWrongly 7 = .ok (.if_icmp .ge 68, 3) := by decide +kernel
theorem d_Mod_liesWrongly_10 : decode b_Mod_liesWrongly 10 = .ok (.iload_n 2, 1) := by decide +kernel
theorem d_Mod_liesWrongly_11 : decode b_Mod_liesWrongly 11 = .ok (.ifCond .ne 52, 3) := by decide +kernel
theorem d_Mod_liesWrongly_14 : decode b_Mod_liesWrongly 14 = .ok (.aload_n 0, 1) := by decide +kernel
theorem d_Mod_liesWrongly_15 : decode b_Mod_liesWrongly 15 = .ok (.getfield 13, 3) := by decide +kernel
theorem d_Mod_liesWrongly_18 : decode b_Mod_liesWrongly 18 = .ok (.iload_n 3, 1) := by decide +kernel
theorem d_Mod_liesWrongly_19 : decode b_Mod_liesWrongly 19 = .ok (.iaload, 1) := by decide +kernel
theorem d_Mod_liesWrongly_20 : decode b_Mod_liesWrongly 20 = .ok (.ifCond .lt 47, 3) := by decide +kernel
theorem d_Mod_liesWrongly_23 : decode b_Mod_liesWrongly 23 = .ok (.aload_n 0, 1) := by decide +kernel
theorem d_Mod_liesWrongly_24 : decode b_Mod_liesWrongly 24 = .ok (.getfield 13, 3) := by decide +kernel
theorem d_Mod_liesWrongly_27 : decode b_Mod_liesWrongly 27 = .ok (.iload_n 3, 1) := by decide +kernel
theorem d_Mod_liesWrongly_28 : decode b_Mod_liesWrongly 28 = .ok (.iaload, 1) := by decide +kernel
theorem d_Mod_liesWrongly_29 : decode b_Mod_liesWrongly 29 = .ok (.iload_n 1, 1) := by decide +kernel
theorem d_Mod_liesWrongly_30 : decode b_Mod_liesWrongly 30 = .ok (.if_icmp .eq 37, 3) := by decide +kernel
theorem d_Mod_liesWrongly_33 : decode b_Mod_liesWrongly 33 = .ok (.aload_n 0, 1) := by decide +kernel
theorem d_Mod_liesWrongly_34 : decode b_Mod_liesWrongly 34 = .ok (.getfield 17, 3) := by decide +kernel
theorem d_Mod_liesWrongly_37 : decode b_Mod_liesWrongly 37 = .ok (.iload_n 3, 1) := by decide +kernel
theorem d_Mod_liesWrongly_38 : decode b_Mod_liesWrongly 38 = .ok (.iaload, 1) := by decide +kernel
theorem d_Mod_liesWrongly_39 : decode b_Mod_liesWrongly 39 = .ok (.iload_n 1, 1) := by decide +kernel
theorem d_Mod_liesWrongly_40 : decode b_Mod_liesWrongly 40 = .ok (.if_icmp .eq 27, 3) := by decide +kernel
theorem d_Mod_liesWrongly_43 : decode b_Mod_liesWrongly 43 = .ok (.aload_n 0, 1) := by decide +kernel
theorem d_Mod_liesWrongly_44 : decode b_Mod_liesWrongly 44 = .ok (.aload_n 0, 1) := by decide +kernel
theorem d_Mod_liesWrongly_45 : decode b_Mod_liesWrongly 45 = .ok (.getfield 13, 3) := by decide +kernel
theorem d_Mod_liesWrongly_48 : decode b_Mod_liesWrongly 48 = .ok (.iload_n 3, 1) := by decide +kernel
theorem d_Mod_liesWrongly_49 : decode b_Mod_liesWrongly 49 = .ok (.iaload, 1) := by decide +kernel
theorem d_Mod_liesWrongly_50 : decode b_Mod_liesWrongly 50 = .ok (.aload_n 0, 1) := by decide +kernel
theorem d_Mod_liesWrongly_51 : decode b_Mod_liesWrongly 51 = .ok (.getfield 17, 3) := by decide +kernel
theorem d_Mod_liesWrongly_54 : decode b_Mod_liesWrongly 54 = .ok (.iload_n 3, 1) := by decide +kernel
theorem d_Mod_liesWrongly_55 : decode b_Mod_liesWrongly 55 = .ok (.iaload, 1) := by decide +kernel
theorem d_Mod_liesWrongly_56 : decode b_Mod_liesWrongly 56 = .ok (.iload_n 1, 1) := by decide +kernel
theorem d_Mod_liesWrongly_57 : decode b_Mod_liesWrongly 57 = .ok (.invokevirtual 191, 3) := by decide +kernel
theorem d_Mod_liesWrongly_60 : decode b_Mod_liesWrongly 60 = .ok (.ifCond .eq 7, 3) := by decide +kernel
theorem d_Mod_liesWrongly_63 : decode b_Mod_liesWrongly 63 = .ok (.iconst 1, 1) := by decide +kernel
theorem d_Mod_liesWrongly_64 : decode b_Mod_liesWrongly 64 = .ok (.goto 4, 3) := by decide +kernel
theorem d_Mod_liesWrongly_67 : decode b_Mod_liesWrongly 67 = .ok (.iconst 0, 1) := by decide +kernel
theorem d_Mod_liesWrongly_68 : decode b_Mod_liesWrongly 68 = .ok (.istore_n 2, 1) := by decide +kernel
theorem d_Mod_liesWrongly_69 : decode b_Mod_liesWrongly 69 = .ok (.iinc 3 1, 3) := by decide +kernel
theorem d_Mod_liesWrongly_72 : decode b_Mod_liesWrongly 72 = .ok (.goto (-68), 3) := by decide +kernel
theorem d_Mod_liesWrongly_75 : decode b_Mod_liesWrongly 75 = .ok (.iconst 0, 1) := by decide +kernel
theorem d_Mod_liesWrongly_76 : decode b_Mod_liesWrongly 76 = .ok (.istore_n 3, 1) := by decide +kernel
theorem d_Mod_liesWrongly_77 : decode b_Mod_liesWrongly 77 = .ok (.iload_n 3, 1) := by decide +kernel
theorem d_Mod_liesWrongly_78 : decode b_Mod_liesWrongly 78 = .ok (.bipush 10, 2) := by decide +kernel
theorem d_Mod_liesWrongly_80 : decode b_Mod_liesWrongly 80 = .ok (.if_icmp .ge 63, 3) := by decide +kernel
theorem d_Mod_liesWrongly_83 : decode b_Mod_liesWrongly 83 = .ok (.iload_n 2, 1) := by decide +kernel
theorem d_Mod_liesWrongly_84 : decode b_Mod_liesWrongly 84 = .ok (.ifCond .ne 47, 3) := by decide +kernel
theorem d_Mod_liesWrongly_87 : decode b_Mod_liesWrongly 87 = .ok (.iload_n 3, 1) := by decide +kernel
theorem d_Mod_liesWrongly_88 : decode b_Mod_liesWrongly 88 = .ok (.iload_n 1, 1) := by decide +kernel
theorem d_Mod_liesWrongly_89 : decode b_Mod_liesWrongly 89 = .ok (.if_icmp .eq 46, 3) := by decide +kernel
theorem d_Mod_liesWrongly_92 : decode b_Mod_liesWrongly 92 = .ok (.aload_n 0, 1) := by decide +kernel
theorem d_Mod_liesWrongly_93 : decode b_Mod_liesWrongly 93 = .ok (.getfield 7, 3) := by decide +kernel
theorem d_Mod_liesWrongly_96 : decode b_Mod_liesWrongly 96 = .ok (.iload_n 3, 1) := by decide +kernel
theorem d_Mod_liesWrongly_97 : decode b_Mod_liesWrongly 97 = .ok (.baload, 1) := by decide +kernel
theorem d_Mod_liesWrongly_98 : decode b_Mod_liesWrongly 98 = .ok (.ifCond .eq 37, 3) := by decide +kernel
theorem d_Mod_liesWrongly_101 : decode b_Mod_liesWrongly 101 = .ok (.aload_n 0, 1) := by decide +kernel
theorem d_Mod_liesWrongly_102 : decode b_Mod_liesWrongly 102 = .ok (.getfield 20, 3) := by decide +kernel
theorem d_Mod_liesWrongly_105 : decode b_Mod_liesWrongly 105 = .ok (.iload_n 3, 1) := by decide +kernel
theorem d_Mod_liesWrongly_106 : decode b_Mod_liesWrongly 106 = .ok (.iaload, 1) := by decide +kernel
theorem d_Mod_liesWrongly_107 : decode b_Mod_liesWrongly 107 = .ok (.aload_n 0, 1) := by decide +kernel
theorem d_Mod_liesWrongly_108 : decode b_Mod_liesWrongly 108 = .ok (.getfield 20, 3) := by decide +kernel
theorem d_Mod_liesWrongly_111 : decode b_Mod_liesWrongly 111 = .ok (.iload_n 1, 1) := by decide +kernel
theorem d_Mod_liesWrongly_112 : decode b_Mod_liesWrongly 112 = .ok (.iaload, 1) := by decide +kernel
theorem d_Mod_liesWrongly_113 : decode b_Mod_liesWrongly 113 = .ok (.if_icmp .ne 22, 3) := by decide +kernel
theorem d_Mod_liesWrongly_116 : decode b_Mod_liesWrongly 116 = .ok (.aload_n 0, 1) := by decide +kernel
theorem d_Mod_liesWrongly_117 : decode b_Mod_liesWrongly 117 = .ok (.getfield 23, 3) := by decide +kernel
theorem d_Mod_liesWrongly_120 : decode b_Mod_liesWrongly 120 = .ok (.iload_n 3, 1) := by decide +kernel
theorem d_Mod_liesWrongly_121 : decode b_Mod_liesWrongly 121 = .ok (.iaload, 1) := by decide +kernel
theorem d_Mod_liesWrongly_122 : decode b_Mod_liesWrongly 122 = .ok (.aload_n 0, 1) := by decide +kernel
theorem d_Mod_liesWrongly_123 : decode b_Mod_liesWrongly 123 = .ok (.getfield 23, 3) := by decide +kernel
theorem d_Mod_liesWrongly_126 : decode b_Mod_liesWrongly 126 = .ok (.iload_n 1, 1) := by decide +kernel
theorem d_Mod_liesWrongly_127 : decode b_Mod_liesWrongly 127 = .ok (.iaload, 1) := by decide +kernel
theorem d_Mod_liesWrongly_128 : decode b_Mod_liesWrongly 128 = .ok (.if_icmp .ne 7, 3) := by decide +kernel
theorem d_Mod_liesWrongly_131 : decode b_Mod_liesWrongly 131 = .ok (.iconst 1, 1) := by decide +kernel
theorem d_Mod_liesWrongly_132 : decode b_Mod_liesWrongly 132 = .ok (.goto 4, 3) := by decide +kernel
theorem d_Mod_liesWrongly_135 : decode b_Mod_liesWrongly 135 = .ok (.iconst 0, 1) := by decide +kernel
theorem d_Mod_liesWrongly_136 : decode b_Mod_liesWrongly 136 = .ok (.istore_n 2, 1) := by decide +kernel
theorem d_Mod_liesWrongly_137 : decode b_Mod_liesWrongly 137 = .ok (.iinc 3 1, 3) := by decide +kernel
theorem d_Mod_liesWrongly_140 : decode b_Mod_liesWrongly 140 = .ok (.goto (-63), 3) := by decide +kernel
theorem d_Mod_liesWrongly_143 : decode b_Mod_liesWrongly 143 = .ok (.iload_n 2, 1) := by decide +kernel
theorem d_Mod_liesWrongly_144 : decode b_Mod_liesWrongly 144 = .ok (.ireturn, 1) := by decide +kernel
theorem d_Mod_line_0 : decode b_Mod_line 0 = .ok (.aload_n 0, 1) := by decide +kernel
theorem d_Mod_line_1 : decode b_Mod_line 1 = .ok (.iload_n 1, 1) := by decide +kernel
theorem d_Mod_line_2 : decode b_Mod_line 2 = .ok (.invokevirtual 76, 3) := by decide +kernel
theorem d_Mod_line_5 : decode b_Mod_line 5 = .ok (.ifCond .eq 11, 3) := by decide +kernel
theorem d_Mod_line_8 : decode b_Mod_line 8 = .ok (.aload_n 0, 1) := by decide +kernel
theorem d_Mod_line_9 : decode b_Mod_line 9 = .ok (.iload_n 2, 1) := by decide +kernel
theorem d_Mod_line_10 : decode b_Mod_line 10 = .ok (.invokevirtual 76, 3) := by decide +kernel
theorem d_Mod_line_13 : decode b_Mod_line 13 = .ok (.ifCond .ne 7, 3) := by decide +kernel
theorem d_Mod_line_16 : decode b_Mod_line 16 = .ok (.iconst 1, 1) := by decide +kernel
theorem d_Mod_line_17 : decode b_Mod_line 17 = .ok (.goto 4, 3) := by decide +kernel
theorem d_Mod_line_20 : decode b_Mod_line 20 = .ok (.iconst 0, 1) := by decide +kernel
theorem d_Mod_line_21 : decode b_Mod_line 21 = .ok (.istore_n 3, 1) := by decide +kernel
theorem d_Mod_line_22 : decode b_Mod_line 22 = .ok (.aload_n 0, 1) := by decide +kernel
theorem d_Mod_line_23 : decode b_Mod_line 23 = .ok (.iload_n 3, 1) := by decide +kernel
theorem d_Mod_line_24 : decode b_Mod_line 24 = .ok (.iload_n 1, 1) := by decide +kernel
theorem d_Mod_line_25 : decode b_Mod_line 25 = .ok (.iload_n 2, 1) := by decide +kernel
theorem d_Mod_line_26 : decode b_Mod_line 26 = .ok (.if_icmp .ne 7, 3) := by decide +kernel
theorem d_Mod_line_29 : decode b_Mod_line 29 = .ok (.iconst 1, 1) := by decide +kernel
theorem d_Mod_line_30 : decode b_Mod_line 30 = .ok (.goto 4, 3) := by decide +kernel
theorem d_Mod_line_33 : decode b_Mod_line 33 = .ok (.iconst 0, 1) := by decide +kernel
theorem d_Mod_line_34 : decode b_Mod_line 34 = .ok (.aload_n 0, 1) := by decide +kernel
theorem d_Mod_line_35 : decode b_Mod_line 35 = .ok (.iload_n 1, 1) := by decide +kernel
theorem d_Mod_line_36 : decode b_Mod_line 36 = .ok (.iload_n 2, 1) := by decide +kernel
theorem d_Mod_line_37 : decode b_Mod_line 37 = .ok (.invokevirtual 87, 3) := by decide +kernel
theorem d_Mod_line_40 : decode b_Mod_line 40 = .ok (.ifCond .ge 12, 3) := by decide +kernel
theorem d_Mod_line_43 : decode b_Mod_line 43 = .ok (.aload_n 0, 1) := by decide +kernel
theorem d_Mod_line_44 : decode b_Mod_line 44 = .ok (.invokevirtual 91, 3) := by decide +kernel
theorem d_Mod_line_47 : decode b_Mod_line 47 = .ok (.bipush 24, 2) := by decide +kernel
theorem d_Mod_line_49 : decode b_Mod_line 49 = .ok (.if_icmp .ne 7, 3) := by decide +kernel
theorem d_Mod_line_52 : decode b_Mod_line 52 = .ok (.iconst 1, 1) := by decide +kernel
theorem d_Mod_line_53 : decode b_Mod_line 53 = .ok (.goto 4, 3) := by decide +kernel
theorem d_Mod_line_56 : decode b_Mod_line 56 = .ok (.iconst 0, 1) := by decide +kernel
theorem d_Mod_line_57 : decode b_Mod_line 57 = .ok (.invokevirtual 79, 3) := by decide +kernel
theorem d_Mod_line_60 : decode b_Mod_line 60 = .ok (.ifCond .eq 5, 3) := by decide +kernel
theorem d_Mod_line_63 : decode b_Mod_line 63 = .ok (.iconst 0, 1) := by decide +kernel
theorem d_Mod_line_64 : decode b_Mod_line 64 = .ok (.ireturn, 1) := by decide +kernel
theorem d_Mod_line_65 : decode b_Mod_line 65 = .ok (.aload_n 0, 1) := by decide +kernel
theorem d_Mod_line_66 : decode b_Mod_line 66 = .ok (.invokevirtual 91, 3) := by decide +kernel
theorem d_Mod_line_69 : decode b_Mod_line 69 = .ok (.istore 4, 2) := by decide +kernel
theorem d_Mod_line_71 : decode b_Mod_line 71 = .ok (.aload_n 0, 1) := by decide +kernel
theorem d_Mod_line_72 : decode b_Mod_line 72 = .ok (.getfield 13, 3) := by decide +kernel
theorem d_Mod_line_75 : decode b_Mod_line 75 = .ok (.iload 4, 2) := by decide +kernel
theorem d_Mod_line_77 : decode b_Mod_line 77 = .ok (.iload_n 1, 1) := by decide +kernel
theorem d_Mod_line_78 : decode b_Mod_line 78 = .ok (.iload_n 2, 1) := by decide +kernel
theorem d_Mod_line_79 : decode b_Mod_line 79 = .ok (.if_icmp .ge 7, 3) := by decide +kernel
theorem d_Mod_line_82 : decode b_Mod_line 82 = .ok (.iload_n 1, 1) := by decide +kernel
theorem d_Mod_line_83 : decode b_Mod_line 83 = .ok (.goto 4, 3) := by decide +kernel
theorem d_Mod_line_86 : decode b_Mod_line 86 = .ok (.iload_n 2, 1) := by decide +kernel
theorem d_Mod_line_87 : decode b_Mod_line 87 = .ok (.iastore, 1) := by decide +kernel
theorem d_Mod_line_88 : decode b_Mod_line 88 = .ok (.aload_n 0, 1) := by decide +kernel
theorem d_Mod_line_89 : decode b_Mod_line 89 = .ok (.getfield 17, 3) := by decide +kernel
theorem d_Mod_line_92 : decode b_Mod_line 92 = .ok (.iload 4, 2) := by decide +kernel
theorem d_Mod_line_94 : decode b_Mod_line 94 = .ok (.iload_n 1, 1) := by decide +kernel
theorem d_Mod_line_95 : decode b_Mod_line 95 = .ok (.iload_n 2, 1) := by decide +kernel
theorem d_Mod_line_96 : decode b_Mod_line 96 = .ok (.if_icmp .ge 7, 3) := by decide +kernel
theorem d_Mod_line_99 : decode b_Mod_line 99 = .ok (.iload_n 2, 1) := by decide +kernel
theorem d_Mod_line_100 : decode b_Mod_line 100 = .ok (.goto 4, 3) := by decide +kernel
theorem d_Mod_line_103 : decode b_Mod_line 103 = .ok (.iload_n 1, 1) := by decide +kernel
theorem d_Mod_line_104 : decode b_Mod_line 104 = .ok (.iastore, 1) := by decide +kernel
theorem d_Mod_line_105 : decode b_Mod_line 105 = .ok (.iload 4, 2) := by decide +kernel
theorem d_Mod_line_107 : decode b_Mod_line 107 = .ok (.ireturn, 1) := by decide +kernel
theorem d_Mod_lineBetween_0 : decode b_Mod_lineBetween 0 = .ok (.iconst (-1), 1) := by decide +kernel
theorem d_Mod_lineBetween_1 : decode b_Mod_lineBetween 1 = .ok (.istore_n 3, 1) := by decide +kernel
theorem d_Mod_lineBetween_2 : decode b_Mod_lineBetween 2 = .ok (.iconst 0, 1) := by decide +kernel
theorem d_Mod_lineBetween_3 : decode b_Mod_lineBetween 3 = .ok (.istore 4, 2) := by decide +kernel
theorem d_Mod_lineBetween_5 : decode b_Mod_lineBetween 5 = .ok (.iload 4, 2) := by decide +kernel
theorem d_Mod_lineBetween_7 : decode b_Mod_lineBetween 7 = .ok (.bipush 24, 2) := by decide +kernel
theorem d_Mod_lineBetween_9 : decode b_Mod_lineBetween 9 = .ok (.if_icmp .ge 70, 3) := by decide +kernel
theorem d_Mod_lineBetween_12 : decode b_Mod_lineBetween 12 = .ok (.aload_n 0, 1) := by decide +kernel
theorem d_Mod_lineBetween_13 : decode b_Mod_lineBetween 13 = .ok (.getfield 13, 3) := by decide +kernel
theorem d_Mod_lineBetween_16 : decode b_Mod_lineBetween 16 = .ok (.iload 4, 2) := by decide +kernel
theorem d_Mod_lineBetween_18 : decode b_Mod_lineBetween 18 = .ok (.iaload, 1) := by decide +kernel
theorem d_Mod_lineBetween_19 : decode b_Mod_lineBetween 19 = .ok (.ifCond .lt 52, 3) := by decide +kernel
theorem d_Mod_lineBetween_22 : decode b_Mod_lineBetween 22 = .ok (.aload_n 0, 1) := by decide +kernel
theorem d_Mod_lineBetween_23 : decode b_Mod_lineBetween 23 = .ok (.getfield 13, 3) := by decide +kernel
theorem d_Mod_lineBetween_26 : decode b_Mod_lineBetween 26 = .ok (.iload 4, 2) := by decide +kernel
theorem d_Mod_lineBetween_28 : decode b_Mod_lineBetween 28 = .ok (.iaload, 1) := by decide +kernel
theorem d_Mod_lineBetween_29 : decode b_Mod_lineBetween 29 = .ok (.iload_n 1, 1) := by decide +kernel
theorem d_Mod_lineBetween_30 : decode b_Mod_lineBetween 30 = .ok (.if_icmp .ne 14, 3) := by decide +kernel
theorem d_Mod_lineBetween_33 : decode b_Mod_lineBetween 33 = .ok (.aload_n 0, 1) := by decide +kernel
theorem d_Mod_lineBetween_34 : decode b_Mod_lineBetween 34 = .ok (.getfield 17, 3) := by decide +kernel
theorem d_Mod_lineBetween_37 : decode b_Mod_lineBetween 37 = .ok (.iload 4, 2) := by decide +kernel
theorem d_Mod_lineBetween_39 : decode b_Mod_lineBetween 39 = .ok (.iaload, 1) := by decide +kernel
theorem d_Mod_lineBetween_40 : decode b_Mod_lineBetween 40 = .ok (.iload_n 2, 1) := by decide +kernel
theorem d_Mod_lineBetween_41 : decode b_Mod_lineBetween 41 = .ok (.if_icmp .eq 25, 3) := by decide +kernel
theorem d_Mod_lineBetween_44 : decode b_Mod_lineBetween 44 = .ok (.aload_n 0, 1) := by decide +kernel
theorem d_Mod_lineBetween_45 : decode b_Mod_lineBetween 45 = .ok (.getfield 13, 3) := by decide +kernel
theorem d_Mod_lineBetween_48 : decode b_Mod_lineBetween 48 = .ok (.iload 4, 2) := by decide +kernel
theorem d_Mod_lineBetween_50 : decode b_Mod_lineBetween 50 = .ok (.iaload, 1) := by decide +kernel
theorem d_Mod_lineBetween_51 : decode b_Mod_lineBetween 51 = .ok (.iload_n 2, 1) := by decide +kernel
theorem d_Mod_lineBetween_52 : decode b_Mod_lineBetween 52 = .ok (.if_icmp .ne 19, 3) := by decide +kernel
theorem d_Mod_lineBetween_55 : decode b_Mod_lineBetween 55 = .ok (.aload_n 0, 1) := by decide +kernel
theorem d_Mod_lineBetween_56 : decode b_Mod_lineBetween 56 = .ok (.getfield 17, 3) := by decide +kernel
theorem d_Mod_lineBetween_59 : decode b_Mod_lineBetween 59 = .ok (.iload 4, 2) := by decide +kernel
theorem d_Mod_lineBetween_61 : decode b_Mod_lineBetween 61 = .ok (.iaload, 1) := by decide +kernel
theorem d_Mod_lineBetween_62 : decode b_Mod_lineBetween 62 = .ok (.iload_n 1, 1) := by decide +kernel
theorem d_Mod_lineBetween_63 : decode b_Mod_lineBetween 63 = .ok (.if_icmp .ne 8, 3) := by decide +kernel
theorem d_Mod_lineBetween_66 : decode b_Mod_lineBetween 66 = .ok (.iload 4, 2) := by decide +kernel
