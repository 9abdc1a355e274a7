theorem d_Mod_piecesWithout_51 : decode b_Mod_piecesWithout 51 = .ok (.iconst 0, 1) := by decide +kernel
theorem d_Mod_piecesWithout_52 : decode b_Mod_piecesWithout 52 = .ok (.istore 4, 2) := by decide +kernel
theorem d_Mod_piecesWithout_54 : decode b_Mod_piecesWithout 54 = .ok (.iload 4, 2) := by decide +kernel
theorem d_Mod_piecesWithout_56 : decode b_Mod_piecesWithout 56 = .ok (.bipush 24, 2) := by decide +kernel
theorem d_Mod_piecesWithout_58 : decode b_Mod_piecesWithout 58 = .ok (.if_icmp .ge 160, 3) := by decide +kernel
theorem d_Mod_piecesWithout_61 : decode b_Mod_piecesWithout 61 = .ok (.aload_n 0, 1) := by decide +kernel
theorem d_Mod_piecesWithout_62 : decode b_Mod_piecesWithout 62 = .ok (.getfield 13, 3) := by decide +kernel
theorem d_Mod_piecesWithout_65 : decode b_Mod_piecesWithout 65 = .ok (.iload 4, 2) := by decide +kernel
theorem d_Mod_piecesWithout_67 : decode b_Mod_piecesWithout 67 = .ok (.iaload, 1) := by decide +kernel
theorem d_Mod_piecesWithout_68 : decode b_Mod_piecesWithout 68 = .ok (.ifCond .lt 35, 3) := by decide +kernel
theorem d_Mod_piecesWithout_71 : decode b_Mod_piecesWithout 71 = .ok (.iload 4, 2) := by decide +kernel
theorem d_Mod_piecesWithout_73 : decode b_Mod_piecesWithout 73 = .ok (.iload_n 2, 1) := by decide +kernel
theorem d_Mod_piecesWithout_74 : decode b_Mod_piecesWithout 74 = .ok (.if_icmp .eq 29, 3) := by decide +kernel
theorem d_Mod_piecesWithout_77 : decode b_Mod_piecesWithout 77 = .ok (.aload_n 0, 1) := by decide +kernel
theorem d_Mod_piecesWithout_78 : decode b_Mod_piecesWithout 78 = .ok (.getfield 13, 3) := by decide +kernel
theorem d_Mod_piecesWithout_81 : decode b_Mod_piecesWithout 81 = .ok (.iload 4, 2) := by decide +kernel
theorem d_Mod_piecesWithout_83 : decode b_Mod_piecesWithout 83 = .ok (.iaload, 1) := by decide +kernel
theorem d_Mod_piecesWithout_84 : decode b_Mod_piecesWithout 84 = .ok (.iload_n 1, 1) := by decide +kernel
theorem d_Mod_piecesWithout_85 : decode b_Mod_piecesWithout 85 = .ok (.if_icmp .eq 18, 3) := by decide +kernel
theorem d_Mod_piecesWithout_88 : decode b_Mod_piecesWithout 88 = .ok (.aload_n 0, 1) := by decide +kernel
theorem d_Mod_piecesWithout_89 : decode b_Mod_piecesWithout 89 = .ok (.getfield 17, 3) := by decide +kernel
theorem d_Mod_piecesWithout_92 : decode b_Mod_piecesWithout 92 = .ok (.iload 4, 2) := by decide +kernel
theorem d_Mod_piecesWithout_94 : decode b_Mod_piecesWithout 94 = .ok (.iaload, 1) := by decide +kernel
theorem d_Mod_piecesWithout_95 : decode b_Mod_piecesWithout 95 = .ok (.iload_n 1, 1) := by decide +kernel
theorem d_Mod_piecesWithout_96 : decode b_Mod_piecesWithout 96 = .ok (.if_icmp .eq 7, 3) := by decide +kernel
theorem d_Mod_piecesWithout_99 : decode b_Mod_piecesWithout 99 = .ok (.iconst 1, 1) := by decide +kernel
theorem d_Mod_piecesWithout_100 : decode b_Mod_piecesWithout 100 = .ok (.goto 4, 3) := by decide +kernel
theorem d_Mod_piecesWithout_103 : decode b_Mod_piecesWithout 103 = .ok (.iconst 0, 1) := by decide +kernel
theorem d_Mod_piecesWithout_104 : decode b_Mod_piecesWithout 104 = .ok (.istore 5, 2) := by decide +kernel
theorem d_Mod_piecesWithout_106 : decode b_Mod_piecesWithout 106 = .ok (.iload 5, 2) := by decide +kernel
theorem d_Mod_piecesWithout_108 : decode b_Mod_piecesWithout 108 = .ok (.ifCond .eq 104, 3) := by decide +kernel
theorem d_Mod_piecesWithout_111 : decode b_Mod_piecesWithout 111 = .ok (.aload_n 0, 1) := by decide +kernel
theorem d_Mod_piecesWithout_112 : decode b_Mod_piecesWithout 112 = .ok (.getfield 59, 3) := by decide +kernel
theorem d_Mod_piecesWithout_115 : decode b_Mod_piecesWithout 115 = .ok (.aload_n 0, 1) := by decide +kernel
theorem d_Mod_piecesWithout_116 : decode b_Mod_piecesWithout 116 = .ok (.getfield 13, 3) := by decide +kernel
theorem d_Mod_piecesWithout_119 : decode b_Mod_piecesWithout 119 = .ok (.iload 4, 2) := by decide +kernel
theorem d_Mod_piecesWithout_121 : decode b_Mod_piecesWithout 121 = .ok (.iaload, 1) := by decide +kernel
theorem d_Mod_piecesWithout_122 : decode b_Mod_piecesWithout 122 = .ok (.iaload, 1) := by decide +kernel
theorem d_Mod_piecesWithout_123 : decode b_Mod_piecesWithout 123 = .ok (.aload_n 0, 1) := by decide +kernel
theorem d_Mod_piecesWithout_124 : decode b_Mod_piecesWithout 124 = .ok (.getfield 59, 3) := by decide +kernel
theorem d_Mod_piecesWithout_127 : decode b_Mod_piecesWithout 127 = .ok (.aload_n 0, 1) := by decide +kernel
theorem d_Mod_piecesWithout_128 : decode b_Mod_piecesWithout 128 = .ok (.getfield 17, 3) := by decide +kernel
theorem d_Mod_piecesWithout_131 : decode b_Mod_piecesWithout 131 = .ok (.iload 4, 2) := by decide +kernel
theorem d_Mod_piecesWithout_133 : decode b_Mod_piecesWithout 133 = .ok (.iaload, 1) := by decide +kernel
theorem d_Mod_piecesWithout_134 : decode b_Mod_piecesWithout 134 = .ok (.iaload, 1) := by decide +kernel
theorem d_Mod_piecesWithout_135 : decode b_Mod_piecesWithout 135 = .ok (.if_icmp .eq 77, 3) := by decide +kernel
theorem d_Mod_piecesWithout_138 : decode b_Mod_piecesWithout 138 = .ok (.aload_n 0, 1) := by decide +kernel
theorem d_Mod_piecesWithout_139 : decode b_Mod_piecesWithout 139 = .ok (.getfield 59, 3) := by decide +kernel
theorem d_Mod_piecesWithout_142 : decode b_Mod_piecesWithout 142 = .ok (.aload_n 0, 1) := by decide +kernel
theorem d_Mod_piecesWithout_143 : decode b_Mod_piecesWithout 143 = .ok (.getfield 17, 3) := by decide +kernel
theorem d_Mod_piecesWithout_146 : decode b_Mod_piecesWithout 146 = .ok (.iload 4, 2) := by decide +kernel
theorem d_Mod_piecesWithout_148 : decode b_Mod_piecesWithout 148 = .ok (.iaload, 1) := by decide +kernel
theorem d_Mod_piecesWithout_149 : decode b_Mod_piecesWithout 149 = .ok (.iaload, 1) := by decide +kernel
theorem d_Mod_piecesWithout_150 : decode b_Mod_piecesWithout 150 = .ok (.istore 6, 2) := by decide +kernel
theorem d_Mod_piecesWithout_152 : decode b_Mod_piecesWithout 152 = .ok (.iconst 0, 1) := by decide +kernel
theorem d_Mod_piecesWithout_153 : decode b_Mod_piecesWithout 153 = .ok (.istore 7, 2) := by decide +kernel
theorem d_Mod_piecesWithout_155 : decode b_Mod_piecesWithout 155 = .ok (.iload 7, 2) := by decide +kernel
theorem d_Mod_piecesWithout_157 : decode b_Mod_piecesWithout 157 = .ok (.bipush 10, 2) := by decide +kernel
theorem d_Mod_piecesWithout_159 : decode b_Mod_piecesWithout 159 = .ok (.if_icmp .ge 50, 3) := by decide +kernel
theorem d_Mod_piecesWithout_162 : decode b_Mod_piecesWithout 162 = .ok (.aload_n 0, 1) := by decide +kernel
theorem d_Mod_piecesWithout_163 : decode b_Mod_piecesWithout 163 = .ok (.getfield 59, 3) := by decide +kernel
theorem d_Mod_piecesWithout_166 : decode b_Mod_piecesWithout 166 = .ok (.iload 7, 2) := by decide +kernel
theorem d_Mod_piecesWithout_168 : decode b_Mod_piecesWithout 168 = .ok (.aload_n 0, 1) := by decide +kernel
theorem d_Mod_piecesWithout_169 : decode b_Mod_piecesWithout 169 = .ok (.getfield 59, 3) := by decide +kernel
theorem d_Mod_piecesWithout_172 : decode b_Mod_piecesWithout 172 = .ok (.iload 7, 2) := by decide +kernel
theorem d_Mod_piecesWithout_174 : decode b_Mod_piecesWithout 174 = .ok (.iaload, 1) := by decide +kernel
theorem d_Mod_piecesWithout_175 : decode b_Mod_piecesWithout 175 = .ok (.iload 6, 2) := by decide +kernel
theorem d_Mod_piecesWithout_177 : decode b_Mod_piecesWithout 177 = .ok (.if_icmp .ne 18, 3) := by decide +kernel
theorem d_Mod_piecesWithout_180 : decode b_Mod_piecesWithout 180 = .ok (.aload_n 0, 1) := by decide +kernel
theorem d_Mod_piecesWithout_181 : decode b_Mod_piecesWithout 181 = .ok (.getfield 59, 3) := by decide +kernel
theorem d_Mod_piecesWithout_184 : decode b_Mod_piecesWithout 184 = .ok (.aload_n 0, 1) := by decide +kernel
theorem d_Mod_piecesWithout_185 : decode b_Mod_piecesWithout 185 = .ok (.getfield 13, 3) := by decide +kernel
theorem d_Mod_piecesWithout_188 : decode b_Mod_piecesWithout 188 = .ok (.iload 4, 2) := by decide +kernel
theorem d_Mod_piecesWithout_190 : decode b_Mod_piecesWithout 190 = .ok (.iaload, 1) := by decide +kernel
theorem d_Mod_piecesWithout_191 : decode b_Mod_piecesWithout 191 = .ok (.iaload, 1) := by decide +kernel
theorem d_Mod_piecesWithout_192 : decode b_Mod_piecesWithout 192 = .ok (.goto 10, 3) := by decide +kernel
theorem d_Mod_piecesWithout_195 : decode b_Mod_piecesWithout 195 = .ok (.aload_n 0, 1) := by decide +kernel
theorem d_Mod_piecesWithout_196 : decode b_Mod_piecesWithout 196 = .ok (.getfield 59, 3) := by decide +kernel
theorem d_Mod_piecesWithout_199 : decode b_Mod_piecesWithout 199 = .ok (.iload 7, 2) := by decide +kernel
theorem d_Mod_piecesWithout_201 : decode b_Mod_piecesWithout 201 = .ok (.iaload, 1) := by decide +kernel
theorem d_Mod_piecesWithout_202 : decode b_Mod_piecesWithout 202 = .ok (.iastore, 1) := by decide +kernel
theorem d_Mod_piecesWithout_203 : decode b_Mod_piecesWithout 203 = .ok (.iinc 7 1, 3) := by decide +kernel
theorem d_Mod_piecesWithout_206 : decode b_Mod_piecesWithout 206 = .ok (.goto (-51), 3) := by decide +kernel
theorem d_Mod_piecesWithout_209 : decode b_Mod_piecesWithout 209 = .ok (.iinc 3 (-1), 3) := by decide +kernel
theorem d_Mod_piecesWithout_212 : decode b_Mod_piecesWithout 212 = .ok (.iinc 4 1, 3) := by decide +kernel
theorem d_Mod_piecesWithout_215 : decode b_Mod_piecesWithout 215 = .ok (.goto (-161), 3) := by decide +kernel
theorem d_Mod_piecesWithout_218 : decode b_Mod_piecesWithout 218 = .ok (.iload_n 3, 1) := by decide +kernel
theorem d_Mod_piecesWithout_219 : decode b_Mod_piecesWithout 219 = .ok (.ireturn, 1) := by decide +kernel
theorem d_Mod_place_0 : decode b_Mod_place 0 = .ok (.aload_n 0, 1) := by decide +kernel
theorem d_Mod_place_1 : decode b_Mod_place 1 = .ok (.iload_n 1, 1) := by decide +kernel
theorem d_Mod_place_2 : decode b_Mod_place 2 = .ok (.invokestatic 72, 3) := by decide +kernel
theorem d_Mod_place_5 : decode b_Mod_place 5 = .ok (.ifCond .ne 7, 3) := by decide +kernel
theorem d_Mod_place_8 : decode b_Mod_place 8 = .ok (.iconst 1, 1) := by decide +kernel
theorem d_Mod_place_9 : decode b_Mod_place 9 = .ok (.goto 4, 3) := by decide +kernel
theorem d_Mod_place_12 : decode b_Mod_place 12 = .ok (.iconst 0, 1) := by decide +kernel
theorem d_Mod_place_13 : decode b_Mod_place 13 = .ok (.iload_n 2, 1) := by decide +kernel
theorem d_Mod_place_14 : decode b_Mod_place 14 = .ok (.ifCond .lt 19, 3) := by decide +kernel
theorem d_Mod_place_17 : decode b_Mod_place 17 = .ok (.iload_n 2, 1) := by decide +kernel
theorem d_Mod_place_18 : decode b_Mod_place 18 = .ok (.bipush 30, 2) := by decide +kernel
theorem d_Mod_place_20 : decode b_Mod_place 20 = .ok (.if_icmp .gt 13, 3) := by decide +kernel
theorem d_Mod_place_23 : decode b_Mod_place 23 = .ok (.iload_n 3, 1) := by decide +kernel
theorem d_Mod_place_24 : decode b_Mod_place 24 = .ok (.ifCond .lt 9, 3) := by decide +kernel
theorem d_Mod_place_27 : decode b_Mod_place 27 = .ok (.iload_n 3, 1) := by decide +kernel
theorem d_Mod_place_28 : decode b_Mod_place 28 = .ok (.bipush 30, 2) := by decide +kernel
theorem d_Mod_place_30 : decode b_Mod_place 30 = .ok (.if_icmp .le 7, 3) := by decide +kernel
theorem d_Mod_place_33 : decode b_Mod_place 33 = .ok (.iconst 1, 1) := by decide +kernel
theorem d_Mod_place_34 : decode b_Mod_place 34 = .ok (.goto 4, 3) := by decide +kernel
theorem d_Mod_place_37 : decode b_Mod_place 37 = .ok (.iconst 0, 1) := by decide +kernel
theorem d_Mod_place_38 : decode b_Mod_place 38 = .ok (.iconst 0, 1) := by decide +kernel
theorem d_Mod_place_39 : decode b_Mod_place 39 = .ok (.invokevirtual 79, 3) := by decide +kernel
theorem d_Mod_place_42 : decode b_Mod_place 42 = .ok (.ifCond .eq 5, 3) := by decide +kernel
theorem d_Mod_place_45 : decode b_Mod_place 45 = .ok (.iconst 0, 1) := by decide +kernel
theorem d_Mod_place_46 : decode b_Mod_place 46 = .ok (.ireturn, 1) := by decide +kernel
theorem d_Mod_place_47 : decode b_Mod_place 47 = .ok (.aload_n 0, 1) := by decide +kernel
theorem d_Mod_place_48 : decode b_Mod_place 48 = .ok (.getfield 20, 3) := by decide +kernel
theorem d_Mod_place_51 : decode b_Mod_place 51 = .ok (.iload_n 1, 1) := by decide +kernel
theorem d_Mod_place_52 : decode b_Mod_place 52 = .ok (.iload_n 2, 1) := by decide +kernel
theorem d_Mod_place_53 : decode b_Mod_place 53 = .ok (.iastore, 1) := by decide +kernel
theorem d_Mod_place_54 : decode b_Mod_place 54 = .ok (.aload_n 0, 1) := by decide +kernel
theorem d_Mod_place_55 : decode b_Mod_place 55 = .ok (.getfield 23, 3) := by decide +kernel
theorem d_Mod_place_58 : decode b_Mod_place 58 = .ok (.iload_n 1, 1) := by decide +kernel
theorem d_Mod_place_59 : decode b_Mod_place 59 = .ok (.iload_n 3, 1) := by decide +kernel
theorem d_Mod_place_60 : decode b_Mod_place 60 = .ok (.iastore, 1) := by decide +kernel
theorem d_Mod_place_61 : decode b_Mod_place 61 = .ok (.aload_n 0, 1) := by decide +kernel
theorem d_Mod_place_62 : decode b_Mod_place 62 = .ok (.invokevirtual 197, 3) := by decide +kernel
theorem d_Mod_place_65 : decode b_Mod_place 65 = .ok (.ireturn, 1) := by decide +kernel
theorem d_Mod_refused_0 : decode b_Mod_refused 0 = .ok (.aload_n 0, 1) := by decide +kernel
theorem d_Mod_refused_1 : decode b_Mod_refused 1 = .ok (.iload_n 1, 1) := by decide +kernel
theorem d_Mod_refused_2 : decode b_Mod_refused 2 = .ok (.ifCond .eq 7, 3) := by decide +kernel
theorem d_Mod_refused_5 : decode b_Mod_refused 5 = .ok (.iconst 1, 1) := by decide +kernel
theorem d_Mod_refused_6 : decode b_Mod_refused 6 = .ok (.goto 20, 3) := by decide +kernel
theorem d_Mod_refused_9 : decode b_Mod_refused 9 = .ok (.iload_n 2, 1) := by decide +kernel
theorem d_Mod_refused_10 : decode b_Mod_refused 10 = .ok (.ifCond .eq 7, 3) := by decide +kernel
theorem d_Mod_refused_13 : decode b_Mod_refused 13 = .ok (.iconst 2, 1) := by decide +kernel
theorem d_Mod_refused_14 : decode b_Mod_refused 14 = .ok (.goto 12, 3) := by decide +kernel
theorem d_Mod_refused_17 : decode b_Mod_refused 17 = .ok (.iload_n 3, 1) := by decide +kernel
theorem d_Mod_refused_18 : decode b_Mod_refused 18 = .ok (.ifCond .eq 7, 3) := by decide +kernel
theorem d_Mod_refused_21 : decode b_Mod_refused 21 = .ok (.iconst 3, 1) := by decide +kernel
theorem d_Mod_refused_22 : decode b_Mod_refused 22 = .ok (.goto 4, 3) := by decide +kernel
theorem d_Mod_refused_25 : decode b_Mod_refused 25 = .ok (.iconst 0, 1) := by decide +kernel
theorem d_Mod_refused_26 : decode b_Mod_refused 26 = .ok (.putfield 68, 3) := by decide +kernel
theorem d_Mod_refused_29 : decode b_Mod_refused 29 = .ok (.aload_n 0, 1) := by decide +kernel
theorem d_Mod_refused_30 : decode b_Mod_refused 30 = .ok (.getfield 68, 3) := by decide +kernel
theorem d_Mod_refused_33 : decode b_Mod_refused 33 = .ok (.ifCond .le 7, 3) := by decide +kernel
theorem d_Mod_refused_36 : decode b_Mod_refused 36 = .ok (.iconst 1, 1) := by decide +kernel
theorem d_Mod_refused_37 : decode b_Mod_refused 37 = .ok (.goto 4, 3) := by decide +kernel
theorem d_Mod_refused_40 : decode b_Mod_refused 40 = .ok (.iconst 0, 1) := by decide +kernel
theorem d_Mod_refused_41 : decode b_Mod_refused 41 = .ok (.ireturn, 1) := by decide +kernel
theorem d_Mod_returns_0 : decode b_Mod_returns 0 = .ok (.aload_n 0, 1) := by decide +kernel
theorem d_Mod_returns_1 : decode b_Mod_returns 1 = .ok (.getfield 38, 3) := by decide +kernel
theorem d_Mod_returns_4 : decode b_Mod_returns 4 = .ok (.iload_n 1, 1) := by decide +kernel
theorem d_Mod_returns_5 : decode b_Mod_returns 5 = .ok (.iaload, 1) := by decide +kernel
theorem d_Mod_returns_6 : decode b_Mod_returns 6 = .ok (.iconst 2, 1) := by decide +kernel
theorem d_Mod_returns_7 : decode b_Mod_returns 7 = .ok (.if_icmp .ne 16, 3) := by decide +kernel
theorem d_Mod_returns_10 : decode b_Mod_returns 10 = .ok (.iload_n 2, 1) := by decide +kernel
theorem d_Mod_returns_11 : decode b_Mod_returns 11 = .ok (.iload_n 1, 1) := by decide +kernel
theorem d_Mod_returns_12 : decode b_Mod_returns 12 = .ok (.if_icmp .ne 7, 3) := by decide +kernel
theorem d_Mod_returns_15 : decode b_Mod_returns 15 = .ok (.iconst 1, 1) := by decide +kernel
theorem d_Mod_returns_16 : decode b_Mod_returns 16 = .ok (.goto 66, 3) := by decide +kernel
theorem d_Mod_returns_19 : decode b_Mod_returns 19 = .ok (.iconst 0, 1) := by decide +kernel
theorem d_Mod_returns_20 : decode b_Mod_returns 20 = .ok (.goto 62, 3) := by decide +kernel
theorem d_Mod_returns_23 : decode b_Mod_returns 23 = .ok (.aload_n 0, 1) := by decide +kernel
theorem d_Mod_returns_24 : decode b_Mod_returns 24 = .ok (.getfield 38, 3) := by decide +kernel
theorem d_Mod_returns_27 : decode b_Mod_returns 27 = .ok (.iload_n 2, 1) := by decide +kernel
theorem d_Mod_returns_28 : decode b_Mod_returns 28 = .ok (.iaload, 1) := by decide +kernel
theorem d_Mod_returns_29 : decode b_Mod_returns 29 = .ok (.iconst 2, 1) := by decide +kernel
theorem d_Mod_returns_30 : decode b_Mod_returns 30 = .ok (.if_icmp .ne 51, 3) := by decide +kernel
theorem d_Mod_returns_33 : decode b_Mod_returns 33 = .ok (.aload_n 0, 1) := by decide +kernel
theorem d_Mod_returns_34 : decode b_Mod_returns 34 = .ok (.getfield 41, 3) := by decide +kernel
theorem d_Mod_returns_37 : decode b_Mod_returns 37 = .ok (.aload_n 0, 1) := by decide +kernel
theorem d_Mod_returns_38 : decode b_Mod_returns 38 = .ok (.getfield 35, 3) := by decide +kernel
theorem d_Mod_returns_41 : decode b_Mod_returns 41 = .ok (.iload_n 2, 1) := by decide +kernel
theorem d_Mod_returns_42 : decode b_Mod_returns 42 = .ok (.iaload, 1) := by decide +kernel
theorem d_Mod_returns_43 : decode b_Mod_returns 43 = .ok (.iaload, 1) := by decide +kernel
theorem d_Mod_returns_44 : decode b_Mod_returns 44 = .ok (.aload_n 0, 1) := by decide +kernel
theorem d_Mod_returns_45 : decode b_Mod_returns 45 = .ok (.getfield 41, 3) := by decide +kernel
theorem d_Mod_returns_48 : decode b_Mod_returns 48 = .ok (.aload_n 0, 1) := by decide +kernel
theorem d_Mod_returns_49 : decode b_Mod_returns 49 = .ok (.getfield 32, 3) := by decide +kernel
theorem d_Mod_returns_52 : decode b_Mod_returns 52 = .ok (.iload_n 1, 1) := by decide +kernel
theorem d_Mod_returns_53 : decode b_Mod_returns 53 = .ok (.iaload, 1) := by decide +kernel
theorem d_Mod_returns_54 : decode b_Mod_returns 54 = .ok (.iaload, 1) := by decide +kernel
theorem d_Mod_returns_55 : decode b_Mod_returns 55 = .ok (.if_icmp .ge 26, 3) := by decide +kernel
theorem d_Mod_returns_58 : decode b_Mod_returns 58 = .ok (.aload_n 0, 1) := by decide +kernel
theorem d_Mod_returns_59 : decode b_Mod_returns 59 = .ok (.aload_n 0, 1) := by decide +kernel
theorem d_Mod_returns_60 : decode b_Mod_returns 60 = .ok (.getfield 32, 3) := by decide +kernel
theorem d_Mod_returns_63 : decode b_Mod_returns 63 = .ok (.iload_n 2, 1) := by decide +kernel
theorem d_Mod_returns_64 : decode b_Mod_returns 64 = .ok (.iaload, 1) := by decide +kernel
theorem d_Mod_returns_65 : decode b_Mod_returns 65 = .ok (.aload_n 0, 1) := by decide +kernel
theorem d_Mod_returns_66 : decode b_Mod_returns 66 = .ok (.getfield 35, 3) := by decide +kernel
theorem d_Mod_returns_69 : decode b_Mod_returns 69 = .ok (.iload_n 1, 1) := by decide +kernel
theorem d_Mod_returns_70 : decode b_Mod_returns 70 = .ok (.iaload, 1) := by decide +kernel
theorem d_Mod_returns_71 : decode b_Mod_returns 71 = .ok (.invokevirtual 117, 3) := by decide +kernel
theorem d_Mod_returns_74 : decode b_Mod_returns 74 = .ok (.ifCond .eq 7, 3) := by decide +kernel
theorem d_Mod_returns_77 : decode b_Mod_returns 77 = .ok (.iconst 1, 1) := by decide +kernel
theorem d_Mod_returns_78 : decode b_Mod_returns 78 = .ok (.goto 4, 3) := by decide +kernel
theorem d_Mod_returns_81 : decode b_Mod_returns 81 = .ok (.iconst 0, 1) := by decide +kernel
theorem d_Mod_returns_82 : decode b_Mod_returns 82 = .ok (.ireturn, 1) := by decide +kernel
theorem d_Mod_room_0 : decode b_Mod_room 0 = .ok (.aload_n 0, 1) := by decide +kernel
theorem d_Mod_room_1 : decode b_Mod_room 1 = .ok (.iconst 0, 1) := by decide +kernel
theorem d_Mod_room_2 : decode b_Mod_room 2 = .ok (.putfield 68, 3) := by decide +kernel
theorem d_Mod_room_5 : decode b_Mod_room 5 = .ok (.iconst 0, 1) := by decide +kernel
theorem d_Mod_room_6 : decode b_Mod_room 6 = .ok (.istore_n 1, 1) := by decide +kernel
theorem d_Mod_room_7 : decode b_Mod_room 7 = .ok (.iconst 0, 1) := by decide +kernel
theorem d_Mod_room_8 : decode b_Mod_room 8 = .ok (.istore_n 2, 1) := by decide +kernel
theorem d_Mod_room_9 : decode b_Mod_room 9 = .ok (.iload_n 2, 1) := by decide +kernel
theorem d_Mod_room_10 : decode b_Mod_room 10 = .ok (.bipush 10, 2) := by decide +kernel
theorem d_Mod_room_12 : decode b_Mod_room 12 = .ok (.if_icmp .ge 69, 3) := by decide +kernel
theorem d_Mod_room_15 : decode b_Mod_room 15 = .ok (.iload_n 2, 1) := by decide +kernel
theorem d_Mod_room_16 : decode b_Mod_room 16 = .ok (.iconst 1, 1) := by decide +kernel
theorem d_Mod_room_17 : decode b_Mod_room 17 = .ok (.iadd, 1) := by decide +kernel
theorem d_Mod_room_18 : decode b_Mod_room 18 = .ok (.istore_n 3, 1) := by decide +kernel
theorem d_Mod_room_19 : decode b_Mod_room 19 = .ok (.iload_n 3, 1) := by decide +kernel
theorem d_Mod_room_20 : decode b_Mod_room 20 = .ok (.bipush 10, 2) := by decide +kernel
theorem d_Mod_room_22 : decode b_Mod_room 22 = .ok (.if_icmp .ge 53, 3) := by decide +kernel
theorem d_Mod_room_25 : decode b_Mod_room 25 = .ok (.aload_n 0, 1) := by decide +kernel
theorem d_Mod_room_26 : decode b_Mod_room 26 = .ok (.getfield 7, 3) := by decide +kernel
theorem d_Mod_room_29 : decode b_Mod_room 29 = .ok (.iload_n 2, 1) := by decide +kernel
theorem d_Mod_room_30 : decode b_Mod_room 30 = .ok (.baload, 1) := by decide +kernel
theorem d_Mod_room_31 : decode b_Mod_room 31 = .ok (.ifCond .eq 36, 3) := by decide +kernel
theorem d_Mod_room_34 : decode b_Mod_room 34 = .ok (.aload_n 0, 1) := by decide +kernel
theorem d_Mod_room_35 : decode b_Mod_room 35 = .ok (.getfield 7, 3) := by decide +kernel
theorem d_Mod_room_38 : decode b_Mod_room 38 = .ok (.iload_n 3, 1) := by decide +kernel
theorem d_Mod_room_39 : decode b_Mod_room 39 = .ok (.baload, 1) := by decide +kernel
theorem d_Mod_room_40 : decode b_Mod_room 40 = .ok (.ifCond .eq 27, 3) := by decide +kernel
theorem d_Mod_room_43 : decode b_Mod_room 43 = .ok (.aload_n 0, 1) := by decide +kernel
theorem d_Mod_room_44 : decode b_Mod_room 44 = .ok (.iload_n 2, 1) := by decide +kernel
theorem d_Mod_room_45 : decode b_Mod_room 45 = .ok (.iload_n 3, 1) := by decide +kernel
theorem d_Mod_room_46 : decode b_Mod_room 46 = .ok (.invokevirtual 87, 3) := by decide +kernel
theorem d_Mod_room_49 : decode b_Mod_room 49 = .ok (.ifCond .ge 18, 3) := by decide +kernel
theorem d_Mod_room_52 : decode b_Mod_room 52 = .ok (.aload_n 0, 1) := by decide +kernel
theorem d_Mod_room_53 : decode b_Mod_room 53 = .ok (.iload_n 2, 1) := by decide +kernel
theorem d_Mod_room_54 : decode b_Mod_room 54 = .ok (.iload_n 3, 1) := by decide +kernel
theorem d_Mod_room_55 : decode b_Mod_room 55 = .ok (.invokevirtual 173, 3) := by decide +kernel
theorem d_Mod_room_58 : decode b_Mod_room 58 = .ok (.ifCond .eq 9, 3) := by decide +kernel
theorem d_Mod_room_61 : decode b_Mod_room 61 = .ok (.iload_n 1, 1) := by decide +kernel
theorem d_Mod_room_62 : decode b_Mod_room 62 = .ok (.iconst 1, 1) := by decide +kernel
theorem d_Mod_room_63 : decode b_Mod_room 63 = .ok (.iadd, 1) := by decide +kernel
theorem d_Mod_room_64 : decode b_Mod_room 64 = .ok (.goto 4, 3) := by decide +kernel
theorem d_Mod_room_67 : decode b_Mod_room 67 = .ok (.iload_n 1, 1) := by decide +kernel
theorem d_Mod_room_68 : decode b_Mod_room 68 = .ok (.istore_n 1, 1) := by decide +kernel
theorem d_Mod_room_69 : decode b_Mod_room 69 = .ok (.iinc 3 1, 3) := by decide +kernel
theorem d_Mod_room_72 : decode b_Mod_room 72 = .ok (.goto (-53), 3) := by decide +kernel
theorem d_Mod_room_75 : decode b_Mod_room 75 = .ok (.iinc 2 1, 3) := by decide +kernel
theorem d_Mod_room_78 : decode b_Mod_room 78 = .ok (.goto (-69), 3) := by decide +kernel
theorem d_Mod_room_81 : decode b_Mod_room 81 = .ok (.iload_n 1, 1) := by decide +kernel
theorem d_Mod_room_82 : decode b_Mod_room 82 = .ok (.ireturn, 1) := by decide +kernel
theorem d_Mod_spare_0 : decode b_Mod_spare 0 = .ok (.aload_n 0, 1) := by decide +kernel
theorem d_Mod_spare_1 : decode b_Mod_spare 1 = .ok (.iconst 0, 1) := by decide +kernel
theorem d_Mod_spare_2 : decode b_Mod_spare 2 = .ok (.putfield 68, 3) := by decide +kernel
theorem d_Mod_spare_5 : decode b_Mod_spare 5 = .ok (.aload_n 0, 1) := by decide +kernel
