theorem d_PT_partSides_167 : decode b_PT_partSides 167 = .ok (.iload_n 3, 1) := by decide +kernel
theorem d_PT_partSides_168 : decode b_PT_partSides 168 = .ok (.iastore, 1) := by decide +kernel
theorem d_PT_partSides_169 : decode b_PT_partSides 169 = .ok (.iinc 5 1, 3) := by decide +kernel
theorem d_PT_partSides_172 : decode b_PT_partSides 172 = .ok (.goto (-70), 3) := by decide +kernel
theorem d_PT_partSides_175 : decode b_PT_partSides 175 = .ok (.return_, 1) := by decide +kernel
theorem d_PT_passes_0 : decode b_PT_passes 0 = .ok (.iconst 0, 1) := by decide +kernel
theorem d_PT_passes_1 : decode b_PT_passes 1 = .ok (.istore_n 2, 1) := by decide +kernel
theorem d_PT_passes_2 : decode b_PT_passes 2 = .ok (.iconst 0, 1) := by decide +kernel
theorem d_PT_passes_3 : decode b_PT_passes 3 = .ok (.istore_n 3, 1) := by decide +kernel
theorem d_PT_passes_4 : decode b_PT_passes 4 = .ok (.iconst 0, 1) := by decide +kernel
theorem d_PT_passes_5 : decode b_PT_passes 5 = .ok (.istore 4, 2) := by decide +kernel
theorem d_PT_passes_7 : decode b_PT_passes 7 = .ok (.iload 4, 2) := by decide +kernel
theorem d_PT_passes_9 : decode b_PT_passes 9 = .ok (.bipush 11, 2) := by decide +kernel
theorem d_PT_passes_11 : decode b_PT_passes 11 = .ok (.if_icmp .ge 35, 3) := by decide +kernel
theorem d_PT_passes_14 : decode b_PT_passes 14 = .ok (.iload_n 3, 1) := by decide +kernel
theorem d_PT_passes_15 : decode b_PT_passes 15 = .ok (.aload_n 1, 1) := by decide +kernel
theorem d_PT_passes_16 : decode b_PT_passes 16 = .ok (.iload 4, 2) := by decide +kernel
theorem d_PT_passes_18 : decode b_PT_passes 18 = .ok (.invokevirtual 30, 3) := by decide +kernel
theorem d_PT_passes_21 : decode b_PT_passes 21 = .ok (.iadd, 1) := by decide +kernel
theorem d_PT_passes_22 : decode b_PT_passes 22 = .ok (.istore_n 3, 1) := by decide +kernel
theorem d_PT_passes_23 : decode b_PT_passes 23 = .ok (.iload_n 2, 1) := by decide +kernel
theorem d_PT_passes_24 : decode b_PT_passes 24 = .ok (.aload_n 1, 1) := by decide +kernel
theorem d_PT_passes_25 : decode b_PT_passes 25 = .ok (.iload 4, 2) := by decide +kernel
theorem d_PT_passes_27 : decode b_PT_passes 27 = .ok (.invokevirtual 30, 3) := by decide +kernel
theorem d_PT_passes_30 : decode b_PT_passes 30 = .ok (.ifCond .le 7, 3) := by decide +kernel
theorem d_PT_passes_33 : decode b_PT_passes 33 = .ok (.iconst 1, 1) := by decide +kernel
theorem d_PT_passes_34 : decode b_PT_passes 34 = .ok (.goto 4, 3) := by decide +kernel
theorem d_PT_passes_37 : decode b_PT_passes 37 = .ok (.iconst 0, 1) := by decide +kernel
theorem d_PT_passes_38 : decode b_PT_passes 38 = .ok (.iadd, 1) := by decide +kernel
theorem d_PT_passes_39 : decode b_PT_passes 39 = .ok (.istore_n 2, 1) := by decide +kernel
theorem d_PT_passes_40 : decode b_PT_passes 40 = .ok (.iinc 4 1, 3) := by decide +kernel
theorem d_PT_passes_43 : decode b_PT_passes 43 = .ok (.goto (-36), 3) := by decide +kernel
theorem d_PT_passes_46 : decode b_PT_passes 46 = .ok (.iload_n 3, 1) := by decide +kernel
theorem d_PT_passes_47 : decode b_PT_passes 47 = .ok (.iconst 2, 1) := by decide +kernel
theorem d_PT_passes_48 : decode b_PT_passes 48 = .ok (.idiv, 1) := by decide +kernel
theorem d_PT_passes_49 : decode b_PT_passes 49 = .ok (.bipush 9, 2) := by decide +kernel
theorem d_PT_passes_51 : decode b_PT_passes 51 = .ok (.if_icmp .ge 5, 3) := by decide +kernel
theorem d_PT_passes_54 : decode b_PT_passes 54 = .ok (.iconst 1, 1) := by decide +kernel
theorem d_PT_passes_55 : decode b_PT_passes 55 = .ok (.ireturn, 1) := by decide +kernel
theorem d_PT_passes_56 : decode b_PT_passes 56 = .ok (.iload_n 3, 1) := by decide +kernel
theorem d_PT_passes_57 : decode b_PT_passes 57 = .ok (.iconst 2, 1) := by decide +kernel
theorem d_PT_passes_58 : decode b_PT_passes 58 = .ok (.idiv, 1) := by decide +kernel
theorem d_PT_passes_59 : decode b_PT_passes 59 = .ok (.iconst 3, 1) := by decide +kernel
theorem d_PT_passes_60 : decode b_PT_passes 60 = .ok (.iload_n 2, 1) := by decide +kernel
theorem d_PT_passes_61 : decode b_PT_passes 61 = .ok (.imul, 1) := by decide +kernel
theorem d_PT_passes_62 : decode b_PT_passes 62 = .ok (.bipush 6, 2) := by decide +kernel
theorem d_PT_passes_64 : decode b_PT_passes 64 = .ok (.isub, 1) := by decide +kernel
theorem d_PT_passes_65 : decode b_PT_passes 65 = .ok (.if_icmp .le 5, 3) := by decide +kernel
theorem d_PT_passes_68 : decode b_PT_passes 68 = .ok (.iconst 0, 1) := by decide +kernel
theorem d_PT_passes_69 : decode b_PT_passes 69 = .ok (.ireturn, 1) := by decide +kernel
theorem d_PT_passes_70 : decode b_PT_passes 70 = .ok (.aload_n 0, 1) := by decide +kernel
theorem d_PT_passes_71 : decode b_PT_passes 71 = .ok (.invokevirtual 36, 3) := by decide +kernel
theorem d_PT_passes_74 : decode b_PT_passes 74 = .ok (.iconst 0, 1) := by decide +kernel
theorem d_PT_passes_75 : decode b_PT_passes 75 = .ok (.istore 4, 2) := by decide +kernel
theorem d_PT_passes_77 : decode b_PT_passes 77 = .ok (.iload 4, 2) := by decide +kernel
theorem d_PT_passes_79 : decode b_PT_passes 79 = .ok (.bipush 11, 2) := by decide +kernel
theorem d_PT_passes_81 : decode b_PT_passes 81 = .ok (.if_icmp .ge 37, 3) := by decide +kernel
theorem d_PT_passes_84 : decode b_PT_passes 84 = .ok (.aload_n 0, 1) := by decide +kernel
theorem d_PT_passes_85 : decode b_PT_passes 85 = .ok (.getfield 39, 3) := by decide +kernel
theorem d_PT_passes_88 : decode b_PT_passes 88 = .ok (.ifCond .ne 30, 3) := by decide +kernel
theorem d_PT_passes_91 : decode b_PT_passes 91 = .ok (.aload_n 0, 1) := by decide +kernel
theorem d_PT_passes_92 : decode b_PT_passes 92 = .ok (.getfield 9, 3) := by decide +kernel
theorem d_PT_passes_95 : decode b_PT_passes 95 = .ok (.iload 4, 2) := by decide +kernel
theorem d_PT_passes_97 : decode b_PT_passes 97 = .ok (.iaload, 1) := by decide +kernel
theorem d_PT_passes_98 : decode b_PT_passes 98 = .ok (.iconst (-1), 1) := by decide +kernel
theorem d_PT_passes_99 : decode b_PT_passes 99 = .ok (.if_icmp .ne 13, 3) := by decide +kernel
theorem d_PT_passes_102 : decode b_PT_passes 102 = .ok (.aload_n 0, 1) := by decide +kernel
theorem d_PT_passes_103 : decode b_PT_passes 103 = .ok (.aload_n 1, 1) := by decide +kernel
theorem d_PT_passes_104 : decode b_PT_passes 104 = .ok (.iload 4, 2) := by decide +kernel
theorem d_PT_passes_106 : decode b_PT_passes 106 = .ok (.iconst (-1), 1) := by decide +kernel
theorem d_PT_passes_107 : decode b_PT_passes 107 = .ok (.iconst 0, 1) := by decide +kernel
theorem d_PT_passes_108 : decode b_PT_passes 108 = .ok (.invokevirtual 43, 3) := by decide +kernel
theorem d_PT_passes_111 : decode b_PT_passes 111 = .ok (.pop, 1) := by decide +kernel
theorem d_PT_passes_112 : decode b_PT_passes 112 = .ok (.iinc 4 1, 3) := by decide +kernel
theorem d_PT_passes_115 : decode b_PT_passes 115 = .ok (.goto (-38), 3) := by decide +kernel
theorem d_PT_passes_118 : decode b_PT_passes 118 = .ok (.aload_n 0, 1) := by decide +kernel
theorem d_PT_passes_119 : decode b_PT_passes 119 = .ok (.getfield 39, 3) := by decide +kernel
theorem d_PT_passes_122 : decode b_PT_passes 122 = .ok (.ifCond .ne 7, 3) := by decide +kernel
theorem d_PT_passes_125 : decode b_PT_passes 125 = .ok (.iconst 1, 1) := by decide +kernel
theorem d_PT_passes_126 : decode b_PT_passes 126 = .ok (.goto 4, 3) := by decide +kernel
theorem d_PT_passes_129 : decode b_PT_passes 129 = .ok (.iconst 0, 1) := by decide +kernel
theorem d_PT_passes_130 : decode b_PT_passes 130 = .ok (.ireturn, 1) := by decide +kernel
theorem d_PT_walk_0 : decode b_PT_walk 0 = .ok (.iload 4, 2) := by decide +kernel
theorem d_PT_walk_2 : decode b_PT_walk 2 = .ok (.bipush 11, 2) := by decide +kernel
theorem d_PT_walk_4 : decode b_PT_walk 4 = .ok (.if_icmp .lt 5, 3) := by decide +kernel
theorem d_PT_walk_7 : decode b_PT_walk 7 = .ok (.iconst 0, 1) := by decide +kernel
theorem d_PT_walk_8 : decode b_PT_walk 8 = .ok (.ireturn, 1) := by decide +kernel
theorem d_PT_walk_9 : decode b_PT_walk 9 = .ok (.aload_n 0, 1) := by decide +kernel
theorem d_PT_walk_10 : decode b_PT_walk 10 = .ok (.getfield 9, 3) := by decide +kernel
theorem d_PT_walk_13 : decode b_PT_walk 13 = .ok (.iload_n 2, 1) := by decide +kernel
theorem d_PT_walk_14 : decode b_PT_walk 14 = .ok (.iload 4, 2) := by decide +kernel
theorem d_PT_walk_16 : decode b_PT_walk 16 = .ok (.iastore, 1) := by decide +kernel
theorem d_PT_walk_17 : decode b_PT_walk 17 = .ok (.iconst 0, 1) := by decide +kernel
theorem d_PT_walk_18 : decode b_PT_walk 18 = .ok (.istore 5, 2) := by decide +kernel
theorem d_PT_walk_20 : decode b_PT_walk 20 = .ok (.iconst 0, 1) := by decide +kernel
theorem d_PT_walk_21 : decode b_PT_walk 21 = .ok (.istore 6, 2) := by decide +kernel
theorem d_PT_walk_23 : decode b_PT_walk 23 = .ok (.iconst 0, 1) := by decide +kernel
theorem d_PT_walk_24 : decode b_PT_walk 24 = .ok (.istore 7, 2) := by decide +kernel
theorem d_PT_walk_26 : decode b_PT_walk 26 = .ok (.iload 7, 2) := by decide +kernel
theorem d_PT_walk_28 : decode b_PT_walk 28 = .ok (.bipush 11, 2) := by decide +kernel
theorem d_PT_walk_30 : decode b_PT_walk 30 = .ok (.if_icmp .ge 129, 3) := by decide +kernel
theorem d_PT_walk_33 : decode b_PT_walk 33 = .ok (.aload_n 0, 1) := by decide +kernel
theorem d_PT_walk_34 : decode b_PT_walk 34 = .ok (.getfield 39, 3) := by decide +kernel
theorem d_PT_walk_37 : decode b_PT_walk 37 = .ok (.ifCond .ne 122, 3) := by decide +kernel
theorem d_PT_walk_40 : decode b_PT_walk 40 = .ok (.iload 7, 2) := by decide +kernel
theorem d_PT_walk_42 : decode b_PT_walk 42 = .ok (.iload_n 3, 1) := by decide +kernel
theorem d_PT_walk_43 : decode b_PT_walk 43 = .ok (.if_icmp .eq 110, 3) := by decide +kernel
theorem d_PT_walk_46 : decode b_PT_walk 46 = .ok (.aload_n 1, 1) := by decide +kernel
theorem d_PT_walk_47 : decode b_PT_walk 47 = .ok (.iload_n 2, 1) := by decide +kernel
theorem d_PT_walk_48 : decode b_PT_walk 48 = .ok (.invokevirtual 57, 3) := by decide +kernel
theorem d_PT_walk_51 : decode b_PT_walk 51 = .ok (.iload 7, 2) := by decide +kernel
theorem d_PT_walk_53 : decode b_PT_walk 53 = .ok (.invokestatic 60, 3) := by decide +kernel
theorem d_PT_walk_56 : decode b_PT_walk 56 = .ok (.ifCond .ne 6, 3) := by decide +kernel
theorem d_PT_walk_59 : decode b_PT_walk 59 = .ok (.goto 94, 3) := by decide +kernel
theorem d_PT_walk_62 : decode b_PT_walk 62 = .ok (.iconst 0, 1) := by decide +kernel
theorem d_PT_walk_63 : decode b_PT_walk 63 = .ok (.istore 8, 2) := by decide +kernel
theorem d_PT_walk_65 : decode b_PT_walk 65 = .ok (.aload_n 0, 1) := by decide +kernel
theorem d_PT_walk_66 : decode b_PT_walk 66 = .ok (.getfield 9, 3) := by decide +kernel
theorem d_PT_walk_69 : decode b_PT_walk 69 = .ok (.iload 7, 2) := by decide +kernel
theorem d_PT_walk_71 : decode b_PT_walk 71 = .ok (.iaload, 1) := by decide +kernel
theorem d_PT_walk_72 : decode b_PT_walk 72 = .ok (.iconst (-1), 1) := by decide +kernel
theorem d_PT_walk_73 : decode b_PT_walk 73 = .ok (.if_icmp .ne 30, 3) := by decide +kernel
theorem d_PT_walk_76 : decode b_PT_walk 76 = .ok (.aload_n 0, 1) := by decide +kernel
theorem d_PT_walk_77 : decode b_PT_walk 77 = .ok (.aload_n 1, 1) := by decide +kernel
theorem d_PT_walk_78 : decode b_PT_walk 78 = .ok (.iload 7, 2) := by decide +kernel
theorem d_PT_walk_80 : decode b_PT_walk 80 = .ok (.iload_n 2, 1) := by decide +kernel
theorem d_PT_walk_81 : decode b_PT_walk 81 = .ok (.iload 4, 2) := by decide +kernel
theorem d_PT_walk_83 : decode b_PT_walk 83 = .ok (.iconst 1, 1) := by decide +kernel
theorem d_PT_walk_84 : decode b_PT_walk 84 = .ok (.iadd, 1) := by decide +kernel
theorem d_PT_walk_85 : decode b_PT_walk 85 = .ok (.invokevirtual 43, 3) := by decide +kernel
theorem d_PT_walk_88 : decode b_PT_walk 88 = .ok (.aload_n 0, 1) := by decide +kernel
theorem d_PT_walk_89 : decode b_PT_walk 89 = .ok (.getfield 15, 3) := by decide +kernel
theorem d_PT_walk_92 : decode b_PT_walk 92 = .ok (.iload 4, 2) := by decide +kernel
theorem d_PT_walk_94 : decode b_PT_walk 94 = .ok (.iaload, 1) := by decide +kernel
theorem d_PT_walk_95 : decode b_PT_walk 95 = .ok (.iconst (-1), 1) := by decide +kernel
theorem d_PT_walk_96 : decode b_PT_walk 96 = .ok (.ixor, 1) := by decide +kernel
theorem d_PT_walk_97 : decode b_PT_walk 97 = .ok (.iand, 1) := by decide +kernel
theorem d_PT_walk_98 : decode b_PT_walk 98 = .ok (.istore 8, 2) := by decide +kernel
theorem d_PT_walk_100 : decode b_PT_walk 100 = .ok (.goto 28, 3) := by decide +kernel
theorem d_PT_walk_103 : decode b_PT_walk 103 = .ok (.aload_n 0, 1) := by decide +kernel
theorem d_PT_walk_104 : decode b_PT_walk 104 = .ok (.getfield 9, 3) := by decide +kernel
theorem d_PT_walk_107 : decode b_PT_walk 107 = .ok (.iload 7, 2) := by decide +kernel
theorem d_PT_walk_109 : decode b_PT_walk 109 = .ok (.iaload, 1) := by decide +kernel
theorem d_PT_walk_110 : decode b_PT_walk 110 = .ok (.iload 4, 2) := by decide +kernel
theorem d_PT_walk_112 : decode b_PT_walk 112 = .ok (.if_icmp .ge 16, 3) := by decide +kernel
theorem d_PT_walk_115 : decode b_PT_walk 115 = .ok (.aload_n 0, 1) := by decide +kernel
theorem d_PT_walk_116 : decode b_PT_walk 116 = .ok (.aload_n 0, 1) := by decide +kernel
theorem d_PT_walk_117 : decode b_PT_walk 117 = .ok (.getfield 9, 3) := by decide +kernel
theorem d_PT_walk_120 : decode b_PT_walk 120 = .ok (.iload 7, 2) := by decide +kernel
theorem d_PT_walk_122 : decode b_PT_walk 122 = .ok (.iaload, 1) := by decide +kernel
theorem d_PT_walk_123 : decode b_PT_walk 123 = .ok (.invokevirtual 64, 3) := by decide +kernel
theorem d_PT_walk_126 : decode b_PT_walk 126 = .ok (.istore 8, 2) := by decide +kernel
theorem d_PT_walk_128 : decode b_PT_walk 128 = .ok (.iload 8, 2) := by decide +kernel
theorem d_PT_walk_130 : decode b_PT_walk 130 = .ok (.ifCond .eq 23, 3) := by decide +kernel
theorem d_PT_walk_133 : decode b_PT_walk 133 = .ok (.aload_n 0, 1) := by decide +kernel
theorem d_PT_walk_134 : decode b_PT_walk 134 = .ok (.iload 8, 2) := by decide +kernel
theorem d_PT_walk_136 : decode b_PT_walk 136 = .ok (.iload 4, 2) := by decide +kernel
theorem d_PT_walk_138 : decode b_PT_walk 138 = .ok (.iload 6, 2) := by decide +kernel
theorem d_PT_walk_140 : decode b_PT_walk 140 = .ok (.invokevirtual 67, 3) := by decide +kernel
theorem d_PT_walk_143 : decode b_PT_walk 143 = .ok (.iinc 6 1, 3) := by decide +kernel
theorem d_PT_walk_146 : decode b_PT_walk 146 = .ok (.iload 5, 2) := by decide +kernel
theorem d_PT_walk_148 : decode b_PT_walk 148 = .ok (.iload 8, 2) := by decide +kernel
theorem d_PT_walk_150 : decode b_PT_walk 150 = .ok (.ior, 1) := by decide +kernel
theorem d_PT_walk_151 : decode b_PT_walk 151 = .ok (.istore 5, 2) := by decide +kernel
theorem d_PT_walk_153 : decode b_PT_walk 153 = .ok (.iinc 7 1, 3) := by decide +kernel
theorem d_PT_walk_156 : decode b_PT_walk 156 = .ok (.goto (-130), 3) := by decide +kernel
theorem d_PT_walk_159 : decode b_PT_walk 159 = .ok (.iload 5, 2) := by decide +kernel
theorem d_PT_walk_161 : decode b_PT_walk 161 = .ok (.ireturn, 1) := by decide +kernel
