theorem d_Mod_cornerBehind_1 : decode b_Mod_cornerBehind 1 = .ok (.istore 4, 2) := by decide +kernel
theorem d_Mod_cornerBehind_3 : decode b_Mod_cornerBehind 3 = .ok (.aload_n 0, 1) := by decide +kernel
theorem d_Mod_cornerBehind_4 : decode b_Mod_cornerBehind 4 = .ok (.getfield 13, 3) := by decide +kernel
theorem d_Mod_cornerBehind_7 : decode b_Mod_cornerBehind 7 = .ok (.iload 4, 2) := by decide +kernel
theorem d_Mod_cornerBehind_9 : decode b_Mod_cornerBehind 9 = .ok (.iaload, 1) := by decide +kernel
theorem d_Mod_cornerBehind_10 : decode b_Mod_cornerBehind 10 = .ok (.iload_n 2, 1) := by decide +kernel
theorem d_Mod_cornerBehind_11 : decode b_Mod_cornerBehind 11 = .ok (.if_icmp .ne 13, 3) := by decide +kernel
theorem d_Mod_cornerBehind_14 : decode b_Mod_cornerBehind 14 = .ok (.aload_n 0, 1) := by decide +kernel
theorem d_Mod_cornerBehind_15 : decode b_Mod_cornerBehind 15 = .ok (.getfield 17, 3) := by decide +kernel
theorem d_Mod_cornerBehind_18 : decode b_Mod_cornerBehind 18 = .ok (.iload 4, 2) := by decide +kernel
theorem d_Mod_cornerBehind_20 : decode b_Mod_cornerBehind 20 = .ok (.iaload, 1) := by decide +kernel
theorem d_Mod_cornerBehind_21 : decode b_Mod_cornerBehind 21 = .ok (.goto 10, 3) := by decide +kernel
theorem d_Mod_cornerBehind_24 : decode b_Mod_cornerBehind 24 = .ok (.aload_n 0, 1) := by decide +kernel
theorem d_Mod_cornerBehind_25 : decode b_Mod_cornerBehind 25 = .ok (.getfield 13, 3) := by decide +kernel
theorem d_Mod_cornerBehind_28 : decode b_Mod_cornerBehind 28 = .ok (.iload 4, 2) := by decide +kernel
theorem d_Mod_cornerBehind_30 : decode b_Mod_cornerBehind 30 = .ok (.iaload, 1) := by decide +kernel
theorem d_Mod_cornerBehind_31 : decode b_Mod_cornerBehind 31 = .ok (.istore 5, 2) := by decide +kernel
theorem d_Mod_cornerBehind_33 : decode b_Mod_cornerBehind 33 = .ok (.aload_n 0, 1) := by decide +kernel
theorem d_Mod_cornerBehind_34 : decode b_Mod_cornerBehind 34 = .ok (.iload_n 1, 1) := by decide +kernel
theorem d_Mod_cornerBehind_35 : decode b_Mod_cornerBehind 35 = .ok (.iload 5, 2) := by decide +kernel
theorem d_Mod_cornerBehind_37 : decode b_Mod_cornerBehind 37 = .ok (.invokevirtual 154, 3) := by decide +kernel
theorem d_Mod_cornerBehind_40 : decode b_Mod_cornerBehind 40 = .ok (.iconst 2, 1) := by decide +kernel
theorem d_Mod_cornerBehind_41 : decode b_Mod_cornerBehind 41 = .ok (.if_icmp .ne 110, 3) := by decide +kernel
theorem d_Mod_cornerBehind_44 : decode b_Mod_cornerBehind 44 = .ok (.iconst (-1), 1) := by decide +kernel
theorem d_Mod_cornerBehind_45 : decode b_Mod_cornerBehind 45 = .ok (.istore 6, 2) := by decide +kernel
theorem d_Mod_cornerBehind_47 : decode b_Mod_cornerBehind 47 = .ok (.iconst 0, 1) := by decide +kernel
theorem d_Mod_cornerBehind_48 : decode b_Mod_cornerBehind 48 = .ok (.istore 7, 2) := by decide +kernel
theorem d_Mod_cornerBehind_50 : decode b_Mod_cornerBehind 50 = .ok (.iload 7, 2) := by decide +kernel
theorem d_Mod_cornerBehind_52 : decode b_Mod_cornerBehind 52 = .ok (.bipush 24, 2) := by decide +kernel
theorem d_Mod_cornerBehind_54 : decode b_Mod_cornerBehind 54 = .ok (.if_icmp .ge 59, 3) := by decide +kernel
theorem d_Mod_cornerBehind_57 : decode b_Mod_cornerBehind 57 = .ok (.iload 7, 2) := by decide +kernel
theorem d_Mod_cornerBehind_59 : decode b_Mod_cornerBehind 59 = .ok (.iload 4, 2) := by decide +kernel
theorem d_Mod_cornerBehind_61 : decode b_Mod_cornerBehind 61 = .ok (.if_icmp .eq 42, 3) := by decide +kernel
theorem d_Mod_cornerBehind_64 : decode b_Mod_cornerBehind 64 = .ok (.iload_n 1, 1) := by decide +kernel
theorem d_Mod_cornerBehind_65 : decode b_Mod_cornerBehind 65 = .ok (.iload 7, 2) := by decide +kernel
theorem d_Mod_cornerBehind_67 : decode b_Mod_cornerBehind 67 = .ok (.ishr, 1) := by decide +kernel
theorem d_Mod_cornerBehind_68 : decode b_Mod_cornerBehind 68 = .ok (.iconst 1, 1) := by decide +kernel
theorem d_Mod_cornerBehind_69 : decode b_Mod_cornerBehind 69 = .ok (.iand, 1) := by decide +kernel
theorem d_Mod_cornerBehind_70 : decode b_Mod_cornerBehind 70 = .ok (.iconst 1, 1) := by decide +kernel
theorem d_Mod_cornerBehind_71 : decode b_Mod_cornerBehind 71 = .ok (.if_icmp .ne 32, 3) := by decide +kernel
theorem d_Mod_cornerBehind_74 : decode b_Mod_cornerBehind 74 = .ok (.aload_n 0, 1) := by decide +kernel
theorem d_Mod_cornerBehind_75 : decode b_Mod_cornerBehind 75 = .ok (.getfield 13, 3) := by decide +kernel
theorem d_Mod_cornerBehind_78 : decode b_Mod_cornerBehind 78 = .ok (.iload 7, 2) := by decide +kernel
theorem d_Mod_cornerBehind_80 : decode b_Mod_cornerBehind 80 = .ok (.iaload, 1) := by decide +kernel
theorem d_Mod_cornerBehind_81 : decode b_Mod_cornerBehind 81 = .ok (.iload 5, 2) := by decide +kernel
theorem d_Mod_cornerBehind_83 : decode b_Mod_cornerBehind 83 = .ok (.if_icmp .eq 15, 3) := by decide +kernel
theorem d_Mod_cornerBehind_86 : decode b_Mod_cornerBehind 86 = .ok (.aload_n 0, 1) := by decide +kernel
theorem d_Mod_cornerBehind_87 : decode b_Mod_cornerBehind 87 = .ok (.getfield 17, 3) := by decide +kernel
theorem d_Mod_cornerBehind_90 : decode b_Mod_cornerBehind 90 = .ok (.iload 7, 2) := by decide +kernel
theorem d_Mod_cornerBehind_92 : decode b_Mod_cornerBehind 92 = .ok (.iaload, 1) := by decide +kernel
theorem d_Mod_cornerBehind_93 : decode b_Mod_cornerBehind 93 = .ok (.iload 5, 2) := by decide +kernel
theorem d_Mod_cornerBehind_95 : decode b_Mod_cornerBehind 95 = .ok (.if_icmp .ne 8, 3) := by decide +kernel
theorem d_Mod_cornerBehind_98 : decode b_Mod_cornerBehind 98 = .ok (.iload 7, 2) := by decide +kernel
theorem d_Mod_cornerBehind_100 : decode b_Mod_cornerBehind 100 = .ok (.goto 5, 3) := by decide +kernel
theorem d_Mod_cornerBehind_103 : decode b_Mod_cornerBehind 103 = .ok (.iload 6, 2) := by decide +kernel
theorem d_Mod_cornerBehind_105 : decode b_Mod_cornerBehind 105 = .ok (.istore 6, 2) := by decide +kernel
theorem d_Mod_cornerBehind_107 : decode b_Mod_cornerBehind 107 = .ok (.iinc 7 1, 3) := by decide +kernel
theorem d_Mod_cornerBehind_110 : decode b_Mod_cornerBehind 110 = .ok (.goto (-60), 3) := by decide +kernel
theorem d_Mod_cornerBehind_113 : decode b_Mod_cornerBehind 113 = .ok (.iload 6, 2) := by decide +kernel
theorem d_Mod_cornerBehind_115 : decode b_Mod_cornerBehind 115 = .ok (.istore 4, 2) := by decide +kernel
theorem d_Mod_cornerBehind_117 : decode b_Mod_cornerBehind 117 = .ok (.aload_n 0, 1) := by decide +kernel
theorem d_Mod_cornerBehind_118 : decode b_Mod_cornerBehind 118 = .ok (.getfield 13, 3) := by decide +kernel
theorem d_Mod_cornerBehind_121 : decode b_Mod_cornerBehind 121 = .ok (.iload 4, 2) := by decide +kernel
theorem d_Mod_cornerBehind_123 : decode b_Mod_cornerBehind 123 = .ok (.iaload, 1) := by decide +kernel
theorem d_Mod_cornerBehind_124 : decode b_Mod_cornerBehind 124 = .ok (.iload 5, 2) := by decide +kernel
theorem d_Mod_cornerBehind_126 : decode b_Mod_cornerBehind 126 = .ok (.if_icmp .ne 13, 3) := by decide +kernel
theorem d_Mod_cornerBehind_129 : decode b_Mod_cornerBehind 129 = .ok (.aload_n 0, 1) := by decide +kernel
theorem d_Mod_cornerBehind_130 : decode b_Mod_cornerBehind 130 = .ok (.getfield 17, 3) := by decide +kernel
theorem d_Mod_cornerBehind_133 : decode b_Mod_cornerBehind 133 = .ok (.iload 4, 2) := by decide +kernel
theorem d_Mod_cornerBehind_135 : decode b_Mod_cornerBehind 135 = .ok (.iaload, 1) := by decide +kernel
theorem d_Mod_cornerBehind_136 : decode b_Mod_cornerBehind 136 = .ok (.goto 10, 3) := by decide +kernel
theorem d_Mod_cornerBehind_139 : decode b_Mod_cornerBehind 139 = .ok (.aload_n 0, 1) := by decide +kernel
theorem d_Mod_cornerBehind_140 : decode b_Mod_cornerBehind 140 = .ok (.getfield 13, 3) := by decide +kernel
theorem d_Mod_cornerBehind_143 : decode b_Mod_cornerBehind 143 = .ok (.iload 4, 2) := by decide +kernel
theorem d_Mod_cornerBehind_145 : decode b_Mod_cornerBehind 145 = .ok (.iaload, 1) := by decide +kernel
theorem d_Mod_cornerBehind_146 : decode b_Mod_cornerBehind 146 = .ok (.istore 5, 2) := by decide +kernel
theorem d_Mod_cornerBehind_148 : decode b_Mod_cornerBehind 148 = .ok (.goto (-115), 3) := by decide +kernel
theorem d_Mod_cornerBehind_151 : decode b_Mod_cornerBehind 151 = .ok (.iload 5, 2) := by decide +kernel
theorem d_Mod_cornerBehind_153 : decode b_Mod_cornerBehind 153 = .ok (.ireturn, 1) := by decide +kernel
theorem d_Mod_could_0 : decode b_Mod_could 0 = .ok (.aload_n 0, 1) := by decide +kernel
theorem d_Mod_could_1 : decode b_Mod_could 1 = .ok (.iload_n 1, 1) := by decide +kernel
theorem d_Mod_could_2 : decode b_Mod_could 2 = .ok (.invokevirtual 76, 3) := by decide +kernel
theorem d_Mod_could_5 : decode b_Mod_could 5 = .ok (.ifCond .eq 11, 3) := by decide +kernel
theorem d_Mod_could_8 : decode b_Mod_could 8 = .ok (.aload_n 0, 1) := by decide +kernel
theorem d_Mod_could_9 : decode b_Mod_could 9 = .ok (.iload_n 2, 1) := by decide +kernel
theorem d_Mod_could_10 : decode b_Mod_could 10 = .ok (.invokevirtual 76, 3) := by decide +kernel
theorem d_Mod_could_13 : decode b_Mod_could 13 = .ok (.ifCond .ne 7, 3) := by decide +kernel
theorem d_Mod_could_16 : decode b_Mod_could 16 = .ok (.iconst 1, 1) := by decide +kernel
theorem d_Mod_could_17 : decode b_Mod_could 17 = .ok (.goto 4, 3) := by decide +kernel
theorem d_Mod_could_20 : decode b_Mod_could 20 = .ok (.iconst 0, 1) := by decide +kernel
theorem d_Mod_could_21 : decode b_Mod_could 21 = .ok (.istore_n 3, 1) := by decide +kernel
theorem d_Mod_could_22 : decode b_Mod_could 22 = .ok (.aload_n 0, 1) := by decide +kernel
theorem d_Mod_could_23 : decode b_Mod_could 23 = .ok (.iload_n 3, 1) := by decide +kernel
theorem d_Mod_could_24 : decode b_Mod_could 24 = .ok (.iload_n 1, 1) := by decide +kernel
theorem d_Mod_could_25 : decode b_Mod_could 25 = .ok (.iload_n 2, 1) := by decide +kernel
theorem d_Mod_could_26 : decode b_Mod_could 26 = .ok (.if_icmp .eq 12, 3) := by decide +kernel
theorem d_Mod_could_29 : decode b_Mod_could 29 = .ok (.aload_n 0, 1) := by decide +kernel
theorem d_Mod_could_30 : decode b_Mod_could 30 = .ok (.iload_n 1, 1) := by decide +kernel
theorem d_Mod_could_31 : decode b_Mod_could 31 = .ok (.iload_n 2, 1) := by decide +kernel
theorem d_Mod_could_32 : decode b_Mod_could 32 = .ok (.invokevirtual 87, 3) := by decide +kernel
theorem d_Mod_could_35 : decode b_Mod_could 35 = .ok (.ifCond .lt 7, 3) := by decide +kernel
theorem d_Mod_could_38 : decode b_Mod_could 38 = .ok (.iconst 1, 1) := by decide +kernel
theorem d_Mod_could_39 : decode b_Mod_could 39 = .ok (.goto 4, 3) := by decide +kernel
theorem d_Mod_could_42 : decode b_Mod_could 42 = .ok (.iconst 0, 1) := by decide +kernel
theorem d_Mod_could_43 : decode b_Mod_could 43 = .ok (.iconst 0, 1) := by decide +kernel
theorem d_Mod_could_44 : decode b_Mod_could 44 = .ok (.invokevirtual 79, 3) := by decide +kernel
theorem d_Mod_could_47 : decode b_Mod_could 47 = .ok (.ifCond .ne 16, 3) := by decide +kernel
theorem d_Mod_could_50 : decode b_Mod_could 50 = .ok (.aload_n 0, 1) := by decide +kernel
theorem d_Mod_could_51 : decode b_Mod_could 51 = .ok (.iload_n 1, 1) := by decide +kernel
theorem d_Mod_could_52 : decode b_Mod_could 52 = .ok (.iload_n 2, 1) := by decide +kernel
theorem d_Mod_could_53 : decode b_Mod_could 53 = .ok (.invokevirtual 173, 3) := by decide +kernel
theorem d_Mod_could_56 : decode b_Mod_could 56 = .ok (.ifCond .eq 7, 3) := by decide +kernel
theorem d_Mod_could_59 : decode b_Mod_could 59 = .ok (.iconst 1, 1) := by decide +kernel
theorem d_Mod_could_60 : decode b_Mod_could 60 = .ok (.goto 4, 3) := by decide +kernel
theorem d_Mod_could_63 : decode b_Mod_could 63 = .ok (.iconst 0, 1) := by decide +kernel
theorem d_Mod_could_64 : decode b_Mod_could 64 = .ok (.ireturn, 1) := by decide +kernel
theorem d_Mod_couldHave_0 : decode b_Mod_couldHave 0 = .ok (.aload_n 0, 1) := by decide +kernel
theorem d_Mod_couldHave_1 : decode b_Mod_couldHave 1 = .ok (.aload_n 0, 1) := by decide +kernel
theorem d_Mod_couldHave_2 : decode b_Mod_couldHave 2 = .ok (.invokevirtual 103, 3) := by decide +kernel
theorem d_Mod_couldHave_5 : decode b_Mod_couldHave 5 = .ok (.invokevirtual 144, 3) := by decide +kernel
theorem d_Mod_couldHave_8 : decode b_Mod_couldHave 8 = .ok (.aload_n 0, 1) := by decide +kernel
theorem d_Mod_couldHave_9 : decode b_Mod_couldHave 9 = .ok (.iload_n 1, 1) := by decide +kernel
theorem d_Mod_couldHave_10 : decode b_Mod_couldHave 10 = .ok (.iload_n 2, 1) := by decide +kernel
theorem d_Mod_couldHave_11 : decode b_Mod_couldHave 11 = .ok (.invokevirtual 109, 3) := by decide +kernel
theorem d_Mod_couldHave_14 : decode b_Mod_couldHave 14 = .ok (.aload_n 0, 1) := by decide +kernel
theorem d_Mod_couldHave_15 : decode b_Mod_couldHave 15 = .ok (.invokevirtual 147, 3) := by decide +kernel
theorem d_Mod_couldHave_18 : decode b_Mod_couldHave 18 = .ok (.ireturn, 1) := by decide +kernel
theorem d_Mod_countCorners_0 : decode b_Mod_countCorners 0 = .ok (.iconst 0, 1) := by decide +kernel
theorem d_Mod_countCorners_1 : decode b_Mod_countCorners 1 = .ok (.istore_n 2, 1) := by decide +kernel
theorem d_Mod_countCorners_2 : decode b_Mod_countCorners 2 = .ok (.iconst 0, 1) := by decide +kernel
theorem d_Mod_countCorners_3 : decode b_Mod_countCorners 3 = .ok (.istore_n 3, 1) := by decide +kernel
theorem d_Mod_countCorners_4 : decode b_Mod_countCorners 4 = .ok (.iload_n 3, 1) := by decide +kernel
theorem d_Mod_countCorners_5 : decode b_Mod_countCorners 5 = .ok (.bipush 10, 2) := by decide +kernel
theorem d_Mod_countCorners_7 : decode b_Mod_countCorners 7 = .ok (.if_icmp .ge 27, 3) := by decide +kernel
theorem d_Mod_countCorners_10 : decode b_Mod_countCorners 10 = .ok (.aload_n 0, 1) := by decide +kernel
theorem d_Mod_countCorners_11 : decode b_Mod_countCorners 11 = .ok (.iload_n 1, 1) := by decide +kernel
theorem d_Mod_countCorners_12 : decode b_Mod_countCorners 12 = .ok (.iload_n 3, 1) := by decide +kernel
theorem d_Mod_countCorners_13 : decode b_Mod_countCorners 13 = .ok (.invokevirtual 154, 3) := by decide +kernel
theorem d_Mod_countCorners_16 : decode b_Mod_countCorners 16 = .ok (.iconst 2, 1) := by decide +kernel
theorem d_Mod_countCorners_17 : decode b_Mod_countCorners 17 = .ok (.if_icmp .le 9, 3) := by decide +kernel
theorem d_Mod_countCorners_20 : decode b_Mod_countCorners 20 = .ok (.iload_n 2, 1) := by decide +kernel
theorem d_Mod_countCorners_21 : decode b_Mod_countCorners 21 = .ok (.iconst 1, 1) := by decide +kernel
theorem d_Mod_countCorners_22 : decode b_Mod_countCorners 22 = .ok (.iadd, 1) := by decide +kernel
theorem d_Mod_countCorners_23 : decode b_Mod_countCorners 23 = .ok (.goto 4, 3) := by decide +kernel
theorem d_Mod_countCorners_26 : decode b_Mod_countCorners 26 = .ok (.iload_n 2, 1) := by decide +kernel
theorem d_Mod_countCorners_27 : decode b_Mod_countCorners 27 = .ok (.istore_n 2, 1) := by decide +kernel
theorem d_Mod_countCorners_28 : decode b_Mod_countCorners 28 = .ok (.iinc 3 1, 3) := by decide +kernel
theorem d_Mod_countCorners_31 : decode b_Mod_countCorners 31 = .ok (.goto (-27), 3) := by decide +kernel
theorem d_Mod_countCorners_34 : decode b_Mod_countCorners 34 = .ok (.iload_n 2, 1) := by decide +kernel
theorem d_Mod_countCorners_35 : decode b_Mod_countCorners 35 = .ok (.ireturn, 1) := by decide +kernel
theorem d_Mod_countLines_0 : decode b_Mod_countLines 0 = .ok (.iconst 0, 1) := by decide +kernel
theorem d_Mod_countLines_1 : decode b_Mod_countLines 1 = .ok (.istore_n 1, 1) := by decide +kernel
theorem d_Mod_countLines_2 : decode b_Mod_countLines 2 = .ok (.iconst 0, 1) := by decide +kernel
theorem d_Mod_countLines_3 : decode b_Mod_countLines 3 = .ok (.istore_n 2, 1) := by decide +kernel
theorem d_Mod_countLines_4 : decode b_Mod_countLines 4 = .ok (.iload_n 2, 1) := by decide +kernel
theorem d_Mod_countLines_5 : decode b_Mod_countLines 5 = .ok (.bipush 24, 2) := by decide +kernel
theorem d_Mod_countLines_7 : decode b_Mod_countLines 7 = .ok (.if_icmp .ge 26, 3) := by decide +kernel
theorem d_Mod_countLines_10 : decode b_Mod_countLines 10 = .ok (.aload_n 0, 1) := by decide +kernel
theorem d_Mod_countLines_11 : decode b_Mod_countLines 11 = .ok (.getfield 13, 3) := by decide +kernel
theorem d_Mod_countLines_14 : decode b_Mod_countLines 14 = .ok (.iload_n 2, 1) := by decide +kernel
theorem d_Mod_countLines_15 : decode b_Mod_countLines 15 = .ok (.iaload, 1) := by decide +kernel
theorem d_Mod_countLines_16 : decode b_Mod_countLines 16 = .ok (.ifCond .lt 9, 3) := by decide +kernel
theorem d_Mod_countLines_19 : decode b_Mod_countLines 19 = .ok (.iload_n 1, 1) := by decide +kernel
theorem d_Mod_countLines_20 : decode b_Mod_countLines 20 = .ok (.iconst 1, 1) := by decide +kernel
theorem d_Mod_countLines_21 : decode b_Mod_countLines 21 = .ok (.iadd, 1) := by decide +kernel
theorem d_Mod_countLines_22 : decode b_Mod_countLines 22 = .ok (.goto 4, 3) := by decide +kernel
theorem d_Mod_countLines_25 : decode b_Mod_countLines 25 = .ok (.iload_n 1, 1) := by decide +kernel
theorem d_Mod_countLines_26 : decode b_Mod_countLines 26 = .ok (.istore_n 1, 1) := by decide +kernel
theorem d_Mod_countLines_27 : decode b_Mod_countLines 27 = .ok (.iinc 2 1, 3) := by decide +kernel
theorem d_Mod_countLines_30 : decode b_Mod_countLines 30 = .ok (.goto (-26), 3) := by decide +kernel
theorem d_Mod_countLines_33 : decode b_Mod_countLines 33 = .ok (.iload_n 1, 1) := by decide +kernel
theorem d_Mod_countLines_34 : decode b_Mod_countLines 34 = .ok (.ireturn, 1) := by decide +kernel
theorem d_Mod_countNodes_0 : decode b_Mod_countNodes 0 = .ok (.iconst 0, 1) := by decide +kernel
theorem d_Mod_countNodes_1 : decode b_Mod_countNodes 1 = .ok (.istore_n 1, 1) := by decide +kernel
theorem d_Mod_countNodes_2 : decode b_Mod_countNodes 2 = .ok (.iconst 0, 1) := by decide +kernel
theorem d_Mod_countNodes_3 : decode b_Mod_countNodes 3 = .ok (.istore_n 2, 1) := by decide +kernel
theorem d_Mod_countNodes_4 : decode b_Mod_countNodes 4 = .ok (.iload_n 2, 1) := by decide +kernel
theorem d_Mod_countNodes_5 : decode b_Mod_countNodes 5 = .ok (.bipush 10, 2) := by decide +kernel
theorem d_Mod_countNodes_7 : decode b_Mod_countNodes 7 = .ok (.if_icmp .ge 26, 3) := by decide +kernel
theorem d_Mod_countNodes_10 : decode b_Mod_countNodes 10 = .ok (.aload_n 0, 1) := by decide +kernel
theorem d_Mod_countNodes_11 : decode b_Mod_countNodes 11 = .ok (.getfield 7, 3) := by decide +kernel
theorem d_Mod_countNodes_14 : decode b_Mod_countNodes 14 = .ok (.iload_n 2, 1) := by decide +kernel
theorem d_Mod_countNodes_15 : decode b_Mod_countNodes 15 = .ok (.baload, 1) := by decide +kernel
theorem d_Mod_countNodes_16 : decode b_Mod_countNodes 16 = .ok (.ifCond .eq 9, 3) := by decide +kernel
theorem d_Mod_countNodes_19 : decode b_Mod_countNodes 19 = .ok (.iload_n 1, 1) := by decide +kernel
theorem d_Mod_countNodes_20 : decode b_Mod_countNodes 20 = .ok (.iconst 1, 1) := by decide +kernel
theorem d_Mod_countNodes_21 : decode b_Mod_countNodes 21 = .ok (.iadd, 1) := by decide +kernel
theorem d_Mod_countNodes_22 : decode b_Mod_countNodes 22 = .ok (.goto 4, 3) := by decide +kernel
theorem d_Mod_countNodes_25 : decode b_Mod_countNodes 25 = .ok (.iload_n 1, 1) := by decide +kernel
theorem d_Mod_countNodes_26 : decode b_Mod_countNodes 26 = .ok (.istore_n 1, 1) := by decide +kernel
theorem d_Mod_countNodes_27 : decode b_Mod_countNodes 27 = .ok (.iinc 2 1, 3) := by decide +kernel
theorem d_Mod_countNodes_30 : decode b_Mod_countNodes 30 = .ok (.goto (-26), 3) := by decide +kernel
theorem d_Mod_countNodes_33 : decode b_Mod_countNodes 33 = .ok (.iload_n 1, 1) := by decide +kernel
theorem d_Mod_countNodes_34 : decode b_Mod_countNodes 34 = .ok (.ireturn, 1) := by decide +kernel
theorem d_Mod_cut_0 : decode b_Mod_cut 0 = .ok (.aload_n 0, 1) := by decide +kernel
theorem d_Mod_cut_1 : decode b_Mod_cut 1 = .ok (.aload_n 0, 1) := by decide +kernel
theorem d_Mod_cut_2 : decode b_Mod_cut 2 = .ok (.iload_n 1, 1) := by decide +kernel
theorem d_Mod_cut_3 : decode b_Mod_cut 3 = .ok (.invokevirtual 94, 3) := by decide +kernel
theorem d_Mod_cut_6 : decode b_Mod_cut 6 = .ok (.ifCond .ne 7, 3) := by decide +kernel
theorem d_Mod_cut_9 : decode b_Mod_cut 9 = .ok (.iconst 1, 1) := by decide +kernel
theorem d_Mod_cut_10 : decode b_Mod_cut 10 = .ok (.goto 4, 3) := by decide +kernel
theorem d_Mod_cut_13 : decode b_Mod_cut 13 = .ok (.iconst 0, 1) := by decide +kernel
theorem d_Mod_cut_14 : decode b_Mod_cut 14 = .ok (.iconst 0, 1) := by decide +kernel
theorem d_Mod_cut_15 : decode b_Mod_cut 15 = .ok (.iconst 0, 1) := by decide +kernel
theorem d_Mod_cut_16 : decode b_Mod_cut 16 = .ok (.invokevirtual 79, 3) := by decide +kernel
theorem d_Mod_cut_19 : decode b_Mod_cut 19 = .ok (.ifCond .eq 5, 3) := by decide +kernel
theorem d_Mod_cut_22 : decode b_Mod_cut 22 = .ok (.iconst 0, 1) := by decide +kernel
theorem d_Mod_cut_23 : decode b_Mod_cut 23 = .ok (.ireturn, 1) := by decide +kernel
theorem d_Mod_cut_24 : decode b_Mod_cut 24 = .ok (.aload_n 0, 1) := by decide +kernel
theorem d_Mod_cut_25 : decode b_Mod_cut 25 = .ok (.getfield 13, 3) := by decide +kernel
theorem d_Mod_cut_28 : decode b_Mod_cut 28 = .ok (.iload_n 1, 1) := by decide +kernel
theorem d_Mod_cut_29 : decode b_Mod_cut 29 = .ok (.iconst (-1), 1) := by decide +kernel
theorem d_Mod_cut_30 : decode b_Mod_cut 30 = .ok (.iastore, 1) := by decide +kernel
theorem d_Mod_cut_31 : decode b_Mod_cut 31 = .ok (.aload_n 0, 1) := by decide +kernel
theorem d_Mod_cut_32 : decode b_Mod_cut 32 = .ok (.invokevirtual 97, 3) := by decide +kernel
theorem d_Mod_cut_35 : decode b_Mod_cut 35 = .ok (.ireturn, 1) := by decide +kernel
theorem d_Mod_degreeIn_0 : decode b_Mod_degreeIn 0 = .ok (.iconst 0, 1) := by decide +kernel
theorem d_Mod_degreeIn_1 : decode b_Mod_degreeIn 1 = .ok (.istore_n 3, 1) := by decide +kernel
theorem d_Mod_degreeIn_2 : decode b_Mod_degreeIn 2 = .ok (.iconst 0, 1) := by decide +kernel
theorem d_Mod_degreeIn_3 : decode b_Mod_degreeIn 3 = .ok (.istore 4, 2) := by decide +kernel
theorem d_Mod_degreeIn_5 : decode b_Mod_degreeIn 5 = .ok (.iload 4, 2) := by decide +kernel
theorem d_Mod_degreeIn_7 : decode b_Mod_degreeIn 7 = .ok (.bipush 24, 2) := by decide +kernel
theorem d_Mod_degreeIn_9 : decode b_Mod_degreeIn 9 = .ok (.if_icmp .ge 49, 3) := by decide +kernel
theorem d_Mod_degreeIn_12 : decode b_Mod_degreeIn 12 = .ok (.iload_n 1, 1) := by decide +kernel
theorem d_Mod_degreeIn_13 : decode b_Mod_degreeIn 13 = .ok (.iload 4, 2) := by decide +kernel
theorem d_Mod_degreeIn_15 : decode b_Mod_degreeIn 15 = .ok (.ishr, 1) := by decide +kernel
theorem d_Mod_degreeIn_16 : decode b_Mod_degreeIn 16 = .ok (.iconst 1, 1) := by decide +kernel
theorem d_Mod_degreeIn_17 : decode b_Mod_degreeIn 17 = .ok (.iand, 1) := by decide +kernel
theorem d_Mod_degreeIn_18 : decode b_Mod_degreeIn 18 = .ok (.iconst 1, 1) := by decide +kernel
theorem d_Mod_degreeIn_19 : decode b_Mod_degreeIn 19 = .ok (.if_icmp .ne 31, 3) := by decide +kernel
theorem d_Mod_degreeIn_22 : decode b_Mod_degreeIn 22 = .ok (.aload_n 0, 1) := by decide +kernel
theorem d_Mod_degreeIn_23 : decode b_Mod_degreeIn 23 = .ok (.getfield 13, 3) := by decide +kernel
theorem d_Mod_degreeIn_26 : decode b_Mod_degreeIn 26 = .ok (.iload 4, 2) := by decide +kernel
theorem d_Mod_degreeIn_28 : decode b_Mod_degreeIn 28 = .ok (.iaload, 1) := by decide +kernel
theorem d_Mod_degreeIn_29 : decode b_Mod_degreeIn 29 = .ok (.iload_n 2, 1) := by decide +kernel
theorem d_Mod_degreeIn_30 : decode b_Mod_degreeIn 30 = .ok (.if_icmp .eq 14, 3) := by decide +kernel
theorem d_Mod_degreeIn_33 : decode b_Mod_degreeIn 33 = .ok (.aload_n 0, 1) := by decide +kernel
theorem d_Mod_degreeIn_34 : decode b_Mod_degreeIn 34 = .ok (.getfield 17, 3) := by decide +kernel
theorem d_Mod_degreeIn_37 : decode b_Mod_degreeIn 37 = .ok (.iload 4, 2) := by decide +kernel
theorem d_Mod_degreeIn_39 : decode b_Mod_degreeIn 39 = .ok (.iaload, 1) := by decide +kernel
theorem d_Mod_degreeIn_40 : decode b_Mod_degreeIn 40 = .ok (.iload_n 2, 1) := by decide +kernel
theorem d_Mod_degreeIn_41 : decode b_Mod_degreeIn 41 = .ok (.if_icmp .ne 9, 3) := by decide +kernel
theorem d_Mod_degreeIn_44 : decode b_Mod_degreeIn 44 = .ok (.iload_n 3, 1) := by decide +kernel
theorem d_Mod_degreeIn_45 : decode b_Mod_degreeIn 45 = .ok (.iconst 1, 1) := by decide +kernel
theorem d_Mod_degreeIn_46 : decode b_Mod_degreeIn 46 = .ok (.iadd, 1) := by decide +kernel
theorem d_Mod_degreeIn_47 : decode b_Mod_degreeIn 47 = .ok (.goto 4, 3) := by decide +kernel
theorem d_Mod_degreeIn_50 : decode b_Mod_degreeIn 50 = .ok (.iload_n 3, 1) := by decide +kernel
theorem d_Mod_degreeIn_51 : decode b_Mod_degreeIn 51 = .ok (.istore_n 3, 1) := by decide +kernel
theorem d_Mod_degreeIn_52 : decode b_Mod_degreeIn 52 = .ok (.iinc 4 1, 3) := by decide +kernel
theorem d_Mod_degreeIn_55 : decode b_Mod_degreeIn 55 = .ok (.goto (-50), 3) := by decide +kernel
