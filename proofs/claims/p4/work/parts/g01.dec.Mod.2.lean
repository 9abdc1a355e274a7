theorem d_Mod_canColour_74 : decode b_Mod_canColour 74 = .ok (.iconst 1, 1) := by decide +kernel
theorem d_Mod_canColour_75 : decode b_Mod_canColour 75 = .ok (.iadd, 1) := by decide +kernel
theorem d_Mod_canColour_76 : decode b_Mod_canColour 76 = .ok (.iastore, 1) := by decide +kernel
theorem d_Mod_canColour_77 : decode b_Mod_canColour 77 = .ok (.aload_n 0, 1) := by decide +kernel
theorem d_Mod_canColour_78 : decode b_Mod_canColour 78 = .ok (.getfield 62, 3) := by decide +kernel
theorem d_Mod_canColour_81 : decode b_Mod_canColour 81 = .ok (.iload 4, 2) := by decide +kernel
theorem d_Mod_canColour_83 : decode b_Mod_canColour 83 = .ok (.iaload, 1) := by decide +kernel
theorem d_Mod_canColour_84 : decode b_Mod_canColour 84 = .ok (.iload_n 1, 1) := by decide +kernel
theorem d_Mod_canColour_85 : decode b_Mod_canColour 85 = .ok (.if_icmp .ge 26, 3) := by decide +kernel
theorem d_Mod_canColour_88 : decode b_Mod_canColour 88 = .ok (.aload_n 0, 1) := by decide +kernel
theorem d_Mod_canColour_89 : decode b_Mod_canColour 89 = .ok (.iload 4, 2) := by decide +kernel
theorem d_Mod_canColour_91 : decode b_Mod_canColour 91 = .ok (.invokevirtual 176, 3) := by decide +kernel
theorem d_Mod_canColour_94 : decode b_Mod_canColour 94 = .ok (.ifCond .ne 17, 3) := by decide +kernel
theorem d_Mod_canColour_97 : decode b_Mod_canColour 97 = .ok (.aload_n 0, 1) := by decide +kernel
theorem d_Mod_canColour_98 : decode b_Mod_canColour 98 = .ok (.getfield 62, 3) := by decide +kernel
theorem d_Mod_canColour_101 : decode b_Mod_canColour 101 = .ok (.iload 4, 2) := by decide +kernel
theorem d_Mod_canColour_103 : decode b_Mod_canColour 103 = .ok (.dup2, 1) := by decide +kernel
theorem d_Mod_canColour_104 : decode b_Mod_canColour 104 = .ok (.iaload, 1) := by decide +kernel
theorem d_Mod_canColour_105 : decode b_Mod_canColour 105 = .ok (.iconst 1, 1) := by decide +kernel
theorem d_Mod_canColour_106 : decode b_Mod_canColour 106 = .ok (.iadd, 1) := by decide +kernel
theorem d_Mod_canColour_107 : decode b_Mod_canColour 107 = .ok (.iastore, 1) := by decide +kernel
theorem d_Mod_canColour_108 : decode b_Mod_canColour 108 = .ok (.goto (-31), 3) := by decide +kernel
theorem d_Mod_canColour_111 : decode b_Mod_canColour 111 = .ok (.aload_n 0, 1) := by decide +kernel
theorem d_Mod_canColour_112 : decode b_Mod_canColour 112 = .ok (.getfield 62, 3) := by decide +kernel
theorem d_Mod_canColour_115 : decode b_Mod_canColour 115 = .ok (.iload 4, 2) := by decide +kernel
theorem d_Mod_canColour_117 : decode b_Mod_canColour 117 = .ok (.iaload, 1) := by decide +kernel
theorem d_Mod_canColour_118 : decode b_Mod_canColour 118 = .ok (.iload_n 1, 1) := by decide +kernel
theorem d_Mod_canColour_119 : decode b_Mod_canColour 119 = .ok (.if_icmp .ge 9, 3) := by decide +kernel
theorem d_Mod_canColour_122 : decode b_Mod_canColour 122 = .ok (.iinc 3 1, 3) := by decide +kernel
theorem d_Mod_canColour_125 : decode b_Mod_canColour 125 = .ok (.goto 14, 3) := by decide +kernel
theorem d_Mod_canColour_128 : decode b_Mod_canColour 128 = .ok (.aload_n 0, 1) := by decide +kernel
theorem d_Mod_canColour_129 : decode b_Mod_canColour 129 = .ok (.getfield 62, 3) := by decide +kernel
theorem d_Mod_canColour_132 : decode b_Mod_canColour 132 = .ok (.iload 4, 2) := by decide +kernel
theorem d_Mod_canColour_134 : decode b_Mod_canColour 134 = .ok (.iconst (-1), 1) := by decide +kernel
theorem d_Mod_canColour_135 : decode b_Mod_canColour 135 = .ok (.iastore, 1) := by decide +kernel
theorem d_Mod_canColour_136 : decode b_Mod_canColour 136 = .ok (.iinc 3 (-1), 3) := by decide +kernel
theorem d_Mod_canColour_139 : decode b_Mod_canColour 139 = .ok (.goto (-90), 3) := by decide +kernel
theorem d_Mod_canColour_142 : decode b_Mod_canColour 142 = .ok (.iload_n 3, 1) := by decide +kernel
theorem d_Mod_canColour_143 : decode b_Mod_canColour 143 = .ok (.iload_n 2, 1) := by decide +kernel
theorem d_Mod_canColour_144 : decode b_Mod_canColour 144 = .ok (.if_icmp .ne 7, 3) := by decide +kernel
theorem d_Mod_canColour_147 : decode b_Mod_canColour 147 = .ok (.iconst 1, 1) := by decide +kernel
theorem d_Mod_canColour_148 : decode b_Mod_canColour 148 = .ok (.goto 4, 3) := by decide +kernel
theorem d_Mod_canColour_151 : decode b_Mod_canColour 151 = .ok (.iconst 0, 1) := by decide +kernel
theorem d_Mod_canColour_152 : decode b_Mod_canColour 152 = .ok (.ireturn, 1) := by decide +kernel
theorem d_Mod_canFork_0 : decode b_Mod_canFork 0 = .ok (.aload_n 0, 1) := by decide +kernel
theorem d_Mod_canFork_1 : decode b_Mod_canFork 1 = .ok (.iload_n 2, 1) := by decide +kernel
theorem d_Mod_canFork_2 : decode b_Mod_canFork 2 = .ok (.invokevirtual 131, 3) := by decide +kernel
theorem d_Mod_canFork_5 : decode b_Mod_canFork 5 = .ok (.istore_n 3, 1) := by decide +kernel
theorem d_Mod_canFork_6 : decode b_Mod_canFork 6 = .ok (.aload_n 0, 1) := by decide +kernel
theorem d_Mod_canFork_7 : decode b_Mod_canFork 7 = .ok (.iload_n 1, 1) := by decide +kernel
theorem d_Mod_canFork_8 : decode b_Mod_canFork 8 = .ok (.invokevirtual 131, 3) := by decide +kernel
theorem d_Mod_canFork_11 : decode b_Mod_canFork 11 = .ok (.istore 4, 2) := by decide +kernel
theorem d_Mod_canFork_13 : decode b_Mod_canFork 13 = .ok (.iconst (-1), 1) := by decide +kernel
theorem d_Mod_canFork_14 : decode b_Mod_canFork 14 = .ok (.istore 5, 2) := by decide +kernel
theorem d_Mod_canFork_16 : decode b_Mod_canFork 16 = .ok (.iconst (-1), 1) := by decide +kernel
theorem d_Mod_canFork_17 : decode b_Mod_canFork 17 = .ok (.istore 6, 2) := by decide +kernel
theorem d_Mod_canFork_19 : decode b_Mod_canFork 19 = .ok (.iconst 1, 1) := by decide +kernel
theorem d_Mod_canFork_20 : decode b_Mod_canFork 20 = .ok (.istore 7, 2) := by decide +kernel
theorem d_Mod_canFork_22 : decode b_Mod_canFork 22 = .ok (.iconst 0, 1) := by decide +kernel
theorem d_Mod_canFork_23 : decode b_Mod_canFork 23 = .ok (.istore 8, 2) := by decide +kernel
theorem d_Mod_canFork_25 : decode b_Mod_canFork 25 = .ok (.iload 8, 2) := by decide +kernel
theorem d_Mod_canFork_27 : decode b_Mod_canFork 27 = .ok (.aload_n 0, 1) := by decide +kernel
theorem d_Mod_canFork_28 : decode b_Mod_canFork 28 = .ok (.getfield 106, 3) := by decide +kernel
theorem d_Mod_canFork_31 : decode b_Mod_canFork 31 = .ok (.if_icmp .ge 128, 3) := by decide +kernel
theorem d_Mod_canFork_34 : decode b_Mod_canFork 34 = .ok (.aload_n 0, 1) := by decide +kernel
theorem d_Mod_canFork_35 : decode b_Mod_canFork 35 = .ok (.iload_n 1, 1) := by decide +kernel
theorem d_Mod_canFork_36 : decode b_Mod_canFork 36 = .ok (.iload 8, 2) := by decide +kernel
theorem d_Mod_canFork_38 : decode b_Mod_canFork 38 = .ok (.invokevirtual 121, 3) := by decide +kernel
theorem d_Mod_canFork_41 : decode b_Mod_canFork 41 = .ok (.ifCond .eq 52, 3) := by decide +kernel
theorem d_Mod_canFork_44 : decode b_Mod_canFork 44 = .ok (.aload_n 0, 1) := by decide +kernel
theorem d_Mod_canFork_45 : decode b_Mod_canFork 45 = .ok (.getfield 41, 3) := by decide +kernel
theorem d_Mod_canFork_48 : decode b_Mod_canFork 48 = .ok (.aload_n 0, 1) := by decide +kernel
theorem d_Mod_canFork_49 : decode b_Mod_canFork 49 = .ok (.getfield 35, 3) := by decide +kernel
theorem d_Mod_canFork_52 : decode b_Mod_canFork 52 = .ok (.iload 8, 2) := by decide +kernel
theorem d_Mod_canFork_54 : decode b_Mod_canFork 54 = .ok (.iaload, 1) := by decide +kernel
theorem d_Mod_canFork_55 : decode b_Mod_canFork 55 = .ok (.iaload, 1) := by decide +kernel
theorem d_Mod_canFork_56 : decode b_Mod_canFork 56 = .ok (.iload_n 3, 1) := by decide +kernel
theorem d_Mod_canFork_57 : decode b_Mod_canFork 57 = .ok (.if_icmp .le 36, 3) := by decide +kernel
theorem d_Mod_canFork_60 : decode b_Mod_canFork 60 = .ok (.iload 7, 2) := by decide +kernel
theorem d_Mod_canFork_62 : decode b_Mod_canFork 62 = .ok (.ifCond .eq 24, 3) := by decide +kernel
theorem d_Mod_canFork_65 : decode b_Mod_canFork 65 = .ok (.iload 5, 2) := by decide +kernel
theorem d_Mod_canFork_67 : decode b_Mod_canFork 67 = .ok (.ifCond .lt 15, 3) := by decide +kernel
theorem d_Mod_canFork_70 : decode b_Mod_canFork 70 = .ok (.aload_n 0, 1) := by decide +kernel
theorem d_Mod_canFork_71 : decode b_Mod_canFork 71 = .ok (.iload 5, 2) := by decide +kernel
theorem d_Mod_canFork_73 : decode b_Mod_canFork 73 = .ok (.iload 8, 2) := by decide +kernel
theorem d_Mod_canFork_75 : decode b_Mod_canFork 75 = .ok (.iconst 0, 1) := by decide +kernel
theorem d_Mod_canFork_76 : decode b_Mod_canFork 76 = .ok (.invokevirtual 134, 3) := by decide +kernel
theorem d_Mod_canFork_79 : decode b_Mod_canFork 79 = .ok (.ifCond .eq 7, 3) := by decide +kernel
theorem d_Mod_canFork_82 : decode b_Mod_canFork 82 = .ok (.iconst 1, 1) := by decide +kernel
theorem d_Mod_canFork_83 : decode b_Mod_canFork 83 = .ok (.goto 4, 3) := by decide +kernel
theorem d_Mod_canFork_86 : decode b_Mod_canFork 86 = .ok (.iconst 0, 1) := by decide +kernel
theorem d_Mod_canFork_87 : decode b_Mod_canFork 87 = .ok (.istore 7, 2) := by decide +kernel
theorem d_Mod_canFork_89 : decode b_Mod_canFork 89 = .ok (.iload 8, 2) := by decide +kernel
theorem d_Mod_canFork_91 : decode b_Mod_canFork 91 = .ok (.istore 5, 2) := by decide +kernel
theorem d_Mod_canFork_93 : decode b_Mod_canFork 93 = .ok (.aload_n 0, 1) := by decide +kernel
theorem d_Mod_canFork_94 : decode b_Mod_canFork 94 = .ok (.iload_n 2, 1) := by decide +kernel
theorem d_Mod_canFork_95 : decode b_Mod_canFork 95 = .ok (.iload 8, 2) := by decide +kernel
theorem d_Mod_canFork_97 : decode b_Mod_canFork 97 = .ok (.invokevirtual 121, 3) := by decide +kernel
theorem d_Mod_canFork_100 : decode b_Mod_canFork 100 = .ok (.ifCond .eq 53, 3) := by decide +kernel
theorem d_Mod_canFork_103 : decode b_Mod_canFork 103 = .ok (.aload_n 0, 1) := by decide +kernel
theorem d_Mod_canFork_104 : decode b_Mod_canFork 104 = .ok (.getfield 41, 3) := by decide +kernel
theorem d_Mod_canFork_107 : decode b_Mod_canFork 107 = .ok (.aload_n 0, 1) := by decide +kernel
theorem d_Mod_canFork_108 : decode b_Mod_canFork 108 = .ok (.getfield 35, 3) := by decide +kernel
theorem d_Mod_canFork_111 : decode b_Mod_canFork 111 = .ok (.iload 8, 2) := by decide +kernel
theorem d_Mod_canFork_113 : decode b_Mod_canFork 113 = .ok (.iaload, 1) := by decide +kernel
theorem d_Mod_canFork_114 : decode b_Mod_canFork 114 = .ok (.iaload, 1) := by decide +kernel
theorem d_Mod_canFork_115 : decode b_Mod_canFork 115 = .ok (.iload 4, 2) := by decide +kernel
theorem d_Mod_canFork_117 : decode b_Mod_canFork 117 = .ok (.if_icmp .le 36, 3) := by decide +kernel
theorem d_Mod_canFork_120 : decode b_Mod_canFork 120 = .ok (.iload 7, 2) := by decide +kernel
theorem d_Mod_canFork_122 : decode b_Mod_canFork 122 = .ok (.ifCond .eq 24, 3) := by decide +kernel
theorem d_Mod_canFork_125 : decode b_Mod_canFork 125 = .ok (.iload 6, 2) := by decide +kernel
theorem d_Mod_canFork_127 : decode b_Mod_canFork 127 = .ok (.ifCond .lt 15, 3) := by decide +kernel
theorem d_Mod_canFork_130 : decode b_Mod_canFork 130 = .ok (.aload_n 0, 1) := by decide +kernel
theorem d_Mod_canFork_131 : decode b_Mod_canFork 131 = .ok (.iload 6, 2) := by decide +kernel
theorem d_Mod_canFork_133 : decode b_Mod_canFork 133 = .ok (.iload 8, 2) := by decide +kernel
theorem d_Mod_canFork_135 : decode b_Mod_canFork 135 = .ok (.iconst 0, 1) := by decide +kernel
theorem d_Mod_canFork_136 : decode b_Mod_canFork 136 = .ok (.invokevirtual 134, 3) := by decide +kernel
theorem d_Mod_canFork_139 : decode b_Mod_canFork 139 = .ok (.ifCond .eq 7, 3) := by decide +kernel
theorem d_Mod_canFork_142 : decode b_Mod_canFork 142 = .ok (.iconst 1, 1) := by decide +kernel
theorem d_Mod_canFork_143 : decode b_Mod_canFork 143 = .ok (.goto 4, 3) := by decide +kernel
theorem d_Mod_canFork_146 : decode b_Mod_canFork 146 = .ok (.iconst 0, 1) := by decide +kernel
theorem d_Mod_canFork_147 : decode b_Mod_canFork 147 = .ok (.istore 7, 2) := by decide +kernel
theorem d_Mod_canFork_149 : decode b_Mod_canFork 149 = .ok (.iload 8, 2) := by decide +kernel
theorem d_Mod_canFork_151 : decode b_Mod_canFork 151 = .ok (.istore 6, 2) := by decide +kernel
theorem d_Mod_canFork_153 : decode b_Mod_canFork 153 = .ok (.iinc 8 1, 3) := by decide +kernel
theorem d_Mod_canFork_156 : decode b_Mod_canFork 156 = .ok (.goto (-131), 3) := by decide +kernel
theorem d_Mod_canFork_159 : decode b_Mod_canFork 159 = .ok (.iload 7, 2) := by decide +kernel
theorem d_Mod_canFork_161 : decode b_Mod_canFork 161 = .ok (.ifCond .eq 29, 3) := by decide +kernel
theorem d_Mod_canFork_164 : decode b_Mod_canFork 164 = .ok (.iload 5, 2) := by decide +kernel
theorem d_Mod_canFork_166 : decode b_Mod_canFork 166 = .ok (.ifCond .lt 20, 3) := by decide +kernel
theorem d_Mod_canFork_169 : decode b_Mod_canFork 169 = .ok (.iload 6, 2) := by decide +kernel
theorem d_Mod_canFork_171 : decode b_Mod_canFork 171 = .ok (.ifCond .lt 15, 3) := by decide +kernel
theorem d_Mod_canFork_174 : decode b_Mod_canFork 174 = .ok (.aload_n 0, 1) := by decide +kernel
theorem d_Mod_canFork_175 : decode b_Mod_canFork 175 = .ok (.iload 5, 2) := by decide +kernel
theorem d_Mod_canFork_177 : decode b_Mod_canFork 177 = .ok (.iload 6, 2) := by decide +kernel
theorem d_Mod_canFork_179 : decode b_Mod_canFork 179 = .ok (.iconst 1, 1) := by decide +kernel
theorem d_Mod_canFork_180 : decode b_Mod_canFork 180 = .ok (.invokevirtual 134, 3) := by decide +kernel
theorem d_Mod_canFork_183 : decode b_Mod_canFork 183 = .ok (.ifCond .eq 7, 3) := by decide +kernel
theorem d_Mod_canFork_186 : decode b_Mod_canFork 186 = .ok (.iconst 1, 1) := by decide +kernel
theorem d_Mod_canFork_187 : decode b_Mod_canFork 187 = .ok (.goto 4, 3) := by decide +kernel
theorem d_Mod_canFork_190 : decode b_Mod_canFork 190 = .ok (.iconst 0, 1) := by decide +kernel
theorem d_Mod_canFork_191 : decode b_Mod_canFork 191 = .ok (.ireturn, 1) := by decide +kernel
theorem d_Mod_colour_0 : decode b_Mod_colour 0 = .ok (.aload_n 0, 1) := by decide +kernel
theorem d_Mod_colour_1 : decode b_Mod_colour 1 = .ok (.aload_n 0, 1) := by decide +kernel
theorem d_Mod_colour_2 : decode b_Mod_colour 2 = .ok (.iload_n 1, 1) := by decide +kernel
theorem d_Mod_colour_3 : decode b_Mod_colour 3 = .ok (.invokevirtual 76, 3) := by decide +kernel
theorem d_Mod_colour_6 : decode b_Mod_colour 6 = .ok (.ifCond .ne 7, 3) := by decide +kernel
theorem d_Mod_colour_9 : decode b_Mod_colour 9 = .ok (.iconst 1, 1) := by decide +kernel
theorem d_Mod_colour_10 : decode b_Mod_colour 10 = .ok (.goto 4, 3) := by decide +kernel
theorem d_Mod_colour_13 : decode b_Mod_colour 13 = .ok (.iconst 0, 1) := by decide +kernel
theorem d_Mod_colour_14 : decode b_Mod_colour 14 = .ok (.iconst 0, 1) := by decide +kernel
theorem d_Mod_colour_15 : decode b_Mod_colour 15 = .ok (.iconst 0, 1) := by decide +kernel
theorem d_Mod_colour_16 : decode b_Mod_colour 16 = .ok (.invokevirtual 79, 3) := by decide +kernel
theorem d_Mod_colour_19 : decode b_Mod_colour 19 = .ok (.ifCond .eq 5, 3) := by decide +kernel
theorem d_Mod_colour_22 : decode b_Mod_colour 22 = .ok (.iconst 0, 1) := by decide +kernel
theorem d_Mod_colour_23 : decode b_Mod_colour 23 = .ok (.ireturn, 1) := by decide +kernel
theorem d_Mod_colour_24 : decode b_Mod_colour 24 = .ok (.aload_n 0, 1) := by decide +kernel
theorem d_Mod_colour_25 : decode b_Mod_colour 25 = .ok (.invokevirtual 182, 3) := by decide +kernel
theorem d_Mod_colour_28 : decode b_Mod_colour 28 = .ok (.istore_n 2, 1) := by decide +kernel
theorem d_Mod_colour_29 : decode b_Mod_colour 29 = .ok (.iload_n 2, 1) := by decide +kernel
theorem d_Mod_colour_30 : decode b_Mod_colour 30 = .ok (.ifCond .le 12, 3) := by decide +kernel
theorem d_Mod_colour_33 : decode b_Mod_colour 33 = .ok (.aload_n 0, 1) := by decide +kernel
theorem d_Mod_colour_34 : decode b_Mod_colour 34 = .ok (.getfield 62, 3) := by decide +kernel
theorem d_Mod_colour_37 : decode b_Mod_colour 37 = .ok (.iload_n 1, 1) := by decide +kernel
theorem d_Mod_colour_38 : decode b_Mod_colour 38 = .ok (.iaload, 1) := by decide +kernel
theorem d_Mod_colour_39 : decode b_Mod_colour 39 = .ok (.goto 4, 3) := by decide +kernel
theorem d_Mod_colour_42 : decode b_Mod_colour 42 = .ok (.iconst 0, 1) := by decide +kernel
theorem d_Mod_colour_43 : decode b_Mod_colour 43 = .ok (.ireturn, 1) := by decide +kernel
theorem d_Mod_colours_0 : decode b_Mod_colours 0 = .ok (.aload_n 0, 1) := by decide +kernel
theorem d_Mod_colours_1 : decode b_Mod_colours 1 = .ok (.iconst 0, 1) := by decide +kernel
theorem d_Mod_colours_2 : decode b_Mod_colours 2 = .ok (.putfield 68, 3) := by decide +kernel
theorem d_Mod_colours_5 : decode b_Mod_colours 5 = .ok (.aload_n 0, 1) := by decide +kernel
theorem d_Mod_colours_6 : decode b_Mod_colours 6 = .ok (.invokevirtual 182, 3) := by decide +kernel
theorem d_Mod_colours_9 : decode b_Mod_colours 9 = .ok (.ireturn, 1) := by decide +kernel
theorem d_Mod_corner_0 : decode b_Mod_corner 0 = .ok (.aload_n 0, 1) := by decide +kernel
theorem d_Mod_corner_1 : decode b_Mod_corner 1 = .ok (.invokevirtual 157, 3) := by decide +kernel
theorem d_Mod_corner_4 : decode b_Mod_corner 4 = .ok (.istore_n 2, 1) := by decide +kernel
theorem d_Mod_corner_5 : decode b_Mod_corner 5 = .ok (.iload_n 2, 1) := by decide +kernel
theorem d_Mod_corner_6 : decode b_Mod_corner 6 = .ok (.ifCond .ne 7, 3) := by decide +kernel
theorem d_Mod_corner_9 : decode b_Mod_corner 9 = .ok (.iconst 0, 1) := by decide +kernel
theorem d_Mod_corner_10 : decode b_Mod_corner 10 = .ok (.goto 8, 3) := by decide +kernel
theorem d_Mod_corner_13 : decode b_Mod_corner 13 = .ok (.aload_n 0, 1) := by decide +kernel
theorem d_Mod_corner_14 : decode b_Mod_corner 14 = .ok (.iload_n 2, 1) := by decide +kernel
theorem d_Mod_corner_15 : decode b_Mod_corner 15 = .ok (.invokevirtual 160, 3) := by decide +kernel
theorem d_Mod_corner_18 : decode b_Mod_corner 18 = .ok (.istore_n 3, 1) := by decide +kernel
theorem d_Mod_corner_19 : decode b_Mod_corner 19 = .ok (.aload_n 0, 1) := by decide +kernel
theorem d_Mod_corner_20 : decode b_Mod_corner 20 = .ok (.iload_n 2, 1) := by decide +kernel
theorem d_Mod_corner_21 : decode b_Mod_corner 21 = .ok (.ifCond .ne 7, 3) := by decide +kernel
theorem d_Mod_corner_24 : decode b_Mod_corner 24 = .ok (.iconst 1, 1) := by decide +kernel
theorem d_Mod_corner_25 : decode b_Mod_corner 25 = .ok (.goto 4, 3) := by decide +kernel
theorem d_Mod_corner_28 : decode b_Mod_corner 28 = .ok (.iconst 0, 1) := by decide +kernel
theorem d_Mod_corner_29 : decode b_Mod_corner 29 = .ok (.iload_n 1, 1) := by decide +kernel
theorem d_Mod_corner_30 : decode b_Mod_corner 30 = .ok (.ifCond .lt 8, 3) := by decide +kernel
theorem d_Mod_corner_33 : decode b_Mod_corner 33 = .ok (.iload_n 1, 1) := by decide +kernel
theorem d_Mod_corner_34 : decode b_Mod_corner 34 = .ok (.iload_n 3, 1) := by decide +kernel
theorem d_Mod_corner_35 : decode b_Mod_corner 35 = .ok (.if_icmp .lt 7, 3) := by decide +kernel
theorem d_Mod_corner_38 : decode b_Mod_corner 38 = .ok (.iconst 1, 1) := by decide +kernel
theorem d_Mod_corner_39 : decode b_Mod_corner 39 = .ok (.goto 4, 3) := by decide +kernel
theorem d_Mod_corner_42 : decode b_Mod_corner 42 = .ok (.iconst 0, 1) := by decide +kernel
theorem d_Mod_corner_43 : decode b_Mod_corner 43 = .ok (.iconst 0, 1) := by decide +kernel
theorem d_Mod_corner_44 : decode b_Mod_corner 44 = .ok (.invokevirtual 79, 3) := by decide +kernel
theorem d_Mod_corner_47 : decode b_Mod_corner 47 = .ok (.ifCond .eq 5, 3) := by decide +kernel
theorem d_Mod_corner_50 : decode b_Mod_corner 50 = .ok (.iconst 0, 1) := by decide +kernel
theorem d_Mod_corner_51 : decode b_Mod_corner 51 = .ok (.ireturn, 1) := by decide +kernel
theorem d_Mod_corner_52 : decode b_Mod_corner 52 = .ok (.iload_n 3, 1) := by decide +kernel
theorem d_Mod_corner_53 : decode b_Mod_corner 53 = .ok (.iconst 5, 1) := by decide +kernel
theorem d_Mod_corner_54 : decode b_Mod_corner 54 = .ok (.if_icmp .ne 7, 3) := by decide +kernel
theorem d_Mod_corner_57 : decode b_Mod_corner 57 = .ok (.iconst 0, 1) := by decide +kernel
theorem d_Mod_corner_58 : decode b_Mod_corner 58 = .ok (.goto 8, 3) := by decide +kernel
theorem d_Mod_corner_61 : decode b_Mod_corner 61 = .ok (.aload_n 0, 1) := by decide +kernel
theorem d_Mod_corner_62 : decode b_Mod_corner 62 = .ok (.iload_n 2, 1) := by decide +kernel
theorem d_Mod_corner_63 : decode b_Mod_corner 63 = .ok (.invokevirtual 167, 3) := by decide +kernel
theorem d_Mod_corner_66 : decode b_Mod_corner 66 = .ok (.istore 4, 2) := by decide +kernel
theorem d_Mod_corner_68 : decode b_Mod_corner 68 = .ok (.iload_n 1, 1) := by decide +kernel
theorem d_Mod_corner_69 : decode b_Mod_corner 69 = .ok (.istore 5, 2) := by decide +kernel
theorem d_Mod_corner_71 : decode b_Mod_corner 71 = .ok (.iconst 0, 1) := by decide +kernel
theorem d_Mod_corner_72 : decode b_Mod_corner 72 = .ok (.istore 6, 2) := by decide +kernel
theorem d_Mod_corner_74 : decode b_Mod_corner 74 = .ok (.iload 6, 2) := by decide +kernel
theorem d_Mod_corner_76 : decode b_Mod_corner 76 = .ok (.iconst 2, 1) := by decide +kernel
theorem d_Mod_corner_77 : decode b_Mod_corner 77 = .ok (.if_icmp .ge 59, 3) := by decide +kernel
theorem d_Mod_corner_80 : decode b_Mod_corner 80 = .ok (.iconst 0, 1) := by decide +kernel
theorem d_Mod_corner_81 : decode b_Mod_corner 81 = .ok (.istore 7, 2) := by decide +kernel
theorem d_Mod_corner_83 : decode b_Mod_corner 83 = .ok (.iload 7, 2) := by decide +kernel
theorem d_Mod_corner_85 : decode b_Mod_corner 85 = .ok (.bipush 10, 2) := by decide +kernel
theorem d_Mod_corner_87 : decode b_Mod_corner 87 = .ok (.if_icmp .ge 43, 3) := by decide +kernel
theorem d_Mod_corner_90 : decode b_Mod_corner 90 = .ok (.aload_n 0, 1) := by decide +kernel
theorem d_Mod_corner_91 : decode b_Mod_corner 91 = .ok (.iload_n 2, 1) := by decide +kernel
theorem d_Mod_corner_92 : decode b_Mod_corner 92 = .ok (.iload 7, 2) := by decide +kernel
theorem d_Mod_corner_94 : decode b_Mod_corner 94 = .ok (.invokevirtual 154, 3) := by decide +kernel
theorem d_Mod_corner_97 : decode b_Mod_corner 97 = .ok (.iconst 2, 1) := by decide +kernel
theorem d_Mod_corner_98 : decode b_Mod_corner 98 = .ok (.if_icmp .le 26, 3) := by decide +kernel
theorem d_Mod_corner_101 : decode b_Mod_corner 101 = .ok (.iload 4, 2) := by decide +kernel
theorem d_Mod_corner_103 : decode b_Mod_corner 103 = .ok (.iload 7, 2) := by decide +kernel
theorem d_Mod_corner_105 : decode b_Mod_corner 105 = .ok (.ishr, 1) := by decide +kernel
theorem d_Mod_corner_106 : decode b_Mod_corner 106 = .ok (.iconst 1, 1) := by decide +kernel
theorem d_Mod_corner_107 : decode b_Mod_corner 107 = .ok (.iand, 1) := by decide +kernel
theorem d_Mod_corner_108 : decode b_Mod_corner 108 = .ok (.iload 6, 2) := by decide +kernel
theorem d_Mod_corner_110 : decode b_Mod_corner 110 = .ok (.if_icmp .ne 14, 3) := by decide +kernel
theorem d_Mod_corner_113 : decode b_Mod_corner 113 = .ok (.iload 5, 2) := by decide +kernel
theorem d_Mod_corner_115 : decode b_Mod_corner 115 = .ok (.ifCond .ne 6, 3) := by decide +kernel
theorem d_Mod_corner_118 : decode b_Mod_corner 118 = .ok (.iload 7, 2) := by decide +kernel
theorem d_Mod_corner_120 : decode b_Mod_corner 120 = .ok (.ireturn, 1) := by decide +kernel
theorem d_Mod_corner_121 : decode b_Mod_corner 121 = .ok (.iinc 5 (-1), 3) := by decide +kernel
theorem d_Mod_corner_124 : decode b_Mod_corner 124 = .ok (.iinc 7 1, 3) := by decide +kernel
theorem d_Mod_corner_127 : decode b_Mod_corner 127 = .ok (.goto (-44), 3) := by decide +kernel
theorem d_Mod_corner_130 : decode b_Mod_corner 130 = .ok (.iinc 6 1, 3) := by decide +kernel
theorem d_Mod_corner_133 : decode b_Mod_corner 133 = .ok (.goto (-59), 3) := by decide +kernel
theorem d_Mod_corner_136 : decode b_Mod_corner 136 = .ok (.iconst 0, 1) := by decide +kernel
theorem d_Mod_corner_137 : decode b_Mod_corner 137 = .ok (.ireturn, 1) := by decide +kernel
theorem d_Mod_cornerBehind_0 : decode b_Mod_cornerBehind 0 = .ok (.iload_n 3, 1) := by decide +kernel
