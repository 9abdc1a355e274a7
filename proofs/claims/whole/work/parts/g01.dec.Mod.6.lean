theorem d_Mod_oppositeCorners_33 : decode b_Mod_oppositeCorners 33 = .ok (.ishr, 1) := by decide +kernel
theorem d_Mod_oppositeCorners_34 : decode b_Mod_oppositeCorners 34 = .ok (.iconst 1, 1) := by decide +kernel
theorem d_Mod_oppositeCorners_35 : decode b_Mod_oppositeCorners 35 = .ok (.iand, 1) := by decide +kernel
theorem d_Mod_oppositeCorners_36 : decode b_Mod_oppositeCorners 36 = .ok (.iconst 1, 1) := by decide +kernel
theorem d_Mod_oppositeCorners_37 : decode b_Mod_oppositeCorners 37 = .ok (.if_icmp .ne 38, 3) := by decide +kernel
theorem d_Mod_oppositeCorners_40 : decode b_Mod_oppositeCorners 40 = .ok (.aload_n 0, 1) := by decide +kernel
theorem d_Mod_oppositeCorners_41 : decode b_Mod_oppositeCorners 41 = .ok (.getfield 13, 3) := by decide +kernel
theorem d_Mod_oppositeCorners_44 : decode b_Mod_oppositeCorners 44 = .ok (.iload 4, 2) := by decide +kernel
theorem d_Mod_oppositeCorners_46 : decode b_Mod_oppositeCorners 46 = .ok (.iaload, 1) := by decide +kernel
theorem d_Mod_oppositeCorners_47 : decode b_Mod_oppositeCorners 47 = .ok (.iload_n 2, 1) := by decide +kernel
theorem d_Mod_oppositeCorners_48 : decode b_Mod_oppositeCorners 48 = .ok (.if_icmp .eq 14, 3) := by decide +kernel
theorem d_Mod_oppositeCorners_51 : decode b_Mod_oppositeCorners 51 = .ok (.aload_n 0, 1) := by decide +kernel
theorem d_Mod_oppositeCorners_52 : decode b_Mod_oppositeCorners 52 = .ok (.getfield 17, 3) := by decide +kernel
theorem d_Mod_oppositeCorners_55 : decode b_Mod_oppositeCorners 55 = .ok (.iload 4, 2) := by decide +kernel
theorem d_Mod_oppositeCorners_57 : decode b_Mod_oppositeCorners 57 = .ok (.iaload, 1) := by decide +kernel
theorem d_Mod_oppositeCorners_58 : decode b_Mod_oppositeCorners 58 = .ok (.iload_n 2, 1) := by decide +kernel
theorem d_Mod_oppositeCorners_59 : decode b_Mod_oppositeCorners 59 = .ok (.if_icmp .ne 16, 3) := by decide +kernel
theorem d_Mod_oppositeCorners_62 : decode b_Mod_oppositeCorners 62 = .ok (.iload_n 3, 1) := by decide +kernel
theorem d_Mod_oppositeCorners_63 : decode b_Mod_oppositeCorners 63 = .ok (.iconst 1, 1) := by decide +kernel
theorem d_Mod_oppositeCorners_64 : decode b_Mod_oppositeCorners 64 = .ok (.aload_n 0, 1) := by decide +kernel
theorem d_Mod_oppositeCorners_65 : decode b_Mod_oppositeCorners 65 = .ok (.iload_n 1, 1) := by decide +kernel
theorem d_Mod_oppositeCorners_66 : decode b_Mod_oppositeCorners 66 = .ok (.iload_n 2, 1) := by decide +kernel
theorem d_Mod_oppositeCorners_67 : decode b_Mod_oppositeCorners 67 = .ok (.iload 4, 2) := by decide +kernel
theorem d_Mod_oppositeCorners_69 : decode b_Mod_oppositeCorners 69 = .ok (.invokevirtual 163, 3) := by decide +kernel
theorem d_Mod_oppositeCorners_72 : decode b_Mod_oppositeCorners 72 = .ok (.ishl, 1) := by decide +kernel
theorem d_Mod_oppositeCorners_73 : decode b_Mod_oppositeCorners 73 = .ok (.ior, 1) := by decide +kernel
theorem d_Mod_oppositeCorners_74 : decode b_Mod_oppositeCorners 74 = .ok (.istore_n 3, 1) := by decide +kernel
theorem d_Mod_oppositeCorners_75 : decode b_Mod_oppositeCorners 75 = .ok (.iinc 4 1, 3) := by decide +kernel
theorem d_Mod_oppositeCorners_78 : decode b_Mod_oppositeCorners 78 = .ok (.goto (-55), 3) := by decide +kernel
theorem d_Mod_oppositeCorners_81 : decode b_Mod_oppositeCorners 81 = .ok (.iload_n 3, 1) := by decide +kernel
theorem d_Mod_oppositeCorners_82 : decode b_Mod_oppositeCorners 82 = .ok (.ireturn, 1) := by decide +kernel
theorem d_Mod_patternNow_15 : decode b_Mod_patternNow 15 = .ok (.iconst 0, 1) := by decide +kernel
theorem d_Mod_patternNow_16 : decode b_Mod_patternNow 16 = .ok (.istore_n 2, 1) := by decide +kernel
theorem d_Mod_patternNow_17 : decode b_Mod_patternNow 17 = .ok (.iload_n 2, 1) := by decide +kernel
theorem d_Mod_patternNow_18 : decode b_Mod_patternNow 18 = .ok (.bipush 24, 2) := by decide +kernel
theorem d_Mod_patternNow_20 : decode b_Mod_patternNow 20 = .ok (.if_icmp .ge 40, 3) := by decide +kernel
theorem d_Mod_patternNow_23 : decode b_Mod_patternNow 23 = .ok (.iload_n 1, 1) := by decide +kernel
theorem d_Mod_patternNow_24 : decode b_Mod_patternNow 24 = .ok (.iload_n 2, 1) := by decide +kernel
theorem d_Mod_patternNow_25 : decode b_Mod_patternNow 25 = .ok (.ishr, 1) := by decide +kernel
theorem d_Mod_patternNow_26 : decode b_Mod_patternNow 26 = .ok (.iconst 1, 1) := by decide +kernel
theorem d_Mod_patternNow_27 : decode b_Mod_patternNow 27 = .ok (.iand, 1) := by decide +kernel
theorem d_Mod_patternNow_28 : decode b_Mod_patternNow 28 = .ok (.iconst 1, 1) := by decide +kernel
theorem d_Mod_patternNow_29 : decode b_Mod_patternNow 29 = .ok (.if_icmp .ne 25, 3) := by decide +kernel
theorem d_Mod_patternNow_32 : decode b_Mod_patternNow 32 = .ok (.aload_n 0, 1) := by decide +kernel
theorem d_Mod_patternNow_33 : decode b_Mod_patternNow 33 = .ok (.iload_n 1, 1) := by decide +kernel
theorem d_Mod_patternNow_34 : decode b_Mod_patternNow 34 = .ok (.iconst 1, 1) := by decide +kernel
theorem d_Mod_patternNow_35 : decode b_Mod_patternNow 35 = .ok (.iload_n 2, 1) := by decide +kernel
theorem d_Mod_patternNow_36 : decode b_Mod_patternNow 36 = .ok (.ishl, 1) := by decide +kernel
theorem d_Mod_patternNow_37 : decode b_Mod_patternNow 37 = .ok (.iconst (-1), 1) := by decide +kernel
theorem d_Mod_patternNow_38 : decode b_Mod_patternNow 38 = .ok (.ixor, 1) := by decide +kernel
theorem d_Mod_patternNow_39 : decode b_Mod_patternNow 39 = .ok (.iand, 1) := by decide +kernel
theorem d_Mod_patternNow_40 : decode b_Mod_patternNow 40 = .ok (.invokevirtual 151, 3) := by decide +kernel
theorem d_Mod_patternNow_43 : decode b_Mod_patternNow 43 = .ok (.ifCond .ne 11, 3) := by decide +kernel
theorem d_Mod_patternNow_46 : decode b_Mod_patternNow 46 = .ok (.iload_n 1, 1) := by decide +kernel
theorem d_Mod_patternNow_47 : decode b_Mod_patternNow 47 = .ok (.iconst 1, 1) := by decide +kernel
theorem d_Mod_patternNow_48 : decode b_Mod_patternNow 48 = .ok (.iload_n 2, 1) := by decide +kernel
theorem d_Mod_patternNow_49 : decode b_Mod_patternNow 49 = .ok (.ishl, 1) := by decide +kernel
theorem d_Mod_patternNow_50 : decode b_Mod_patternNow 50 = .ok (.iconst (-1), 1) := by decide +kernel
theorem d_Mod_patternNow_51 : decode b_Mod_patternNow 51 = .ok (.ixor, 1) := by decide +kernel
theorem d_Mod_patternNow_52 : decode b_Mod_patternNow 52 = .ok (.iand, 1) := by decide +kernel
theorem d_Mod_patternNow_53 : decode b_Mod_patternNow 53 = .ok (.istore_n 1, 1) := by decide +kernel
theorem d_Mod_patternNow_54 : decode b_Mod_patternNow 54 = .ok (.iinc 2 1, 3) := by decide +kernel
theorem d_Mod_patternNow_57 : decode b_Mod_patternNow 57 = .ok (.goto (-40), 3) := by decide +kernel
theorem d_Mod_patternNow_60 : decode b_Mod_patternNow 60 = .ok (.iload_n 1, 1) := by decide +kernel
theorem d_Mod_patternNow_61 : decode b_Mod_patternNow 61 = .ok (.ireturn, 1) := by decide +kernel
theorem d_Mod_piecesWithout_31 : decode b_Mod_piecesWithout 31 = .ok (.iload 4, 2) := by decide +kernel
theorem d_Mod_piecesWithout_33 : decode b_Mod_piecesWithout 33 = .ok (.iload_n 1, 1) := by decide +kernel
theorem d_Mod_piecesWithout_34 : decode b_Mod_piecesWithout 34 = .ok (.if_icmp .eq 9, 3) := by decide +kernel
theorem d_Mod_piecesWithout_37 : decode b_Mod_piecesWithout 37 = .ok (.iload_n 3, 1) := by decide +kernel
theorem d_Mod_piecesWithout_38 : decode b_Mod_piecesWithout 38 = .ok (.iconst 1, 1) := by decide +kernel
theorem d_Mod_piecesWithout_39 : decode b_Mod_piecesWithout 39 = .ok (.iadd, 1) := by decide +kernel
theorem d_Mod_piecesWithout_40 : decode b_Mod_piecesWithout 40 = .ok (.goto 4, 3) := by decide +kernel
theorem d_Mod_piecesWithout_71 : decode b_Mod_piecesWithout 71 = .ok (.iload 4, 2) := by decide +kernel
theorem d_Mod_piecesWithout_73 : decode b_Mod_piecesWithout 73 = .ok (.iload_n 2, 1) := by decide +kernel
theorem d_Mod_piecesWithout_74 : decode b_Mod_piecesWithout 74 = .ok (.if_icmp .eq 29, 3) := by decide +kernel
theorem d_Mod_piecesWithout_77 : decode b_Mod_piecesWithout 77 = .ok (.aload_n 0, 1) := by decide +kernel
theorem d_Mod_piecesWithout_78 : decode b_Mod_piecesWithout 78 = .ok (.getfield 13, 3) := by decide +kernel
theorem d_Mod_piecesWithout_81 : decode b_Mod_piecesWithout 81 = .ok (.iload 4, 2) := by decide +kernel
theorem d_Mod_piecesWithout_83 : decode b_Mod_piecesWithout 83 = .ok (.iaload, 1) := by decide +kernel
theorem d_Mod_piecesWithout_84 : decode b_Mod_piecesWithout 84 = .ok (.iload_n 1, 1) := by decide +kernel
theorem d_Mod_piecesWithout_85 : decode b_Mod_piecesWithout 85 = .ok (.if_icmp .eq 18, 3) := by decide +kernel
theorem d_Mod_piecesWithout_88 : decode b_Mod_piecesWithout 88 = .ok (.aload_n 0, 1) := by decide +kernel
theorem d_Mod_piecesWithout_89 : decode b_Mod_piecesWithout 89 = .ok (.getfield 17, 3) := by decide +kernel
theorem d_Mod_piecesWithout_92 : decode b_Mod_piecesWithout 92 = .ok (.iload 4, 2) := by decide +kernel
theorem d_Mod_piecesWithout_94 : decode b_Mod_piecesWithout 94 = .ok (.iaload, 1) := by decide +kernel
theorem d_Mod_piecesWithout_95 : decode b_Mod_piecesWithout 95 = .ok (.iload_n 1, 1) := by decide +kernel
theorem d_Mod_piecesWithout_96 : decode b_Mod_piecesWithout 96 = .ok (.if_icmp .eq 7, 3) := by decide +kernel
theorem d_Mod_piecesWithout_99 : decode b_Mod_piecesWithout 99 = .ok (.iconst 1, 1) := by decide +kernel
theorem d_Mod_piecesWithout_100 : decode b_Mod_piecesWithout 100 = .ok (.goto 4, 3) := by decide +kernel
theorem d_Mod_piecesWithout_111 : decode b_Mod_piecesWithout 111 = .ok (.aload_n 0, 1) := by decide +kernel
theorem d_Mod_piecesWithout_112 : decode b_Mod_piecesWithout 112 = .ok (.getfield 59, 3) := by decide +kernel
theorem d_Mod_piecesWithout_115 : decode b_Mod_piecesWithout 115 = .ok (.aload_n 0, 1) := by decide +kernel
theorem d_Mod_piecesWithout_116 : decode b_Mod_piecesWithout 116 = .ok (.getfield 13, 3) := by decide +kernel
theorem d_Mod_piecesWithout_119 : decode b_Mod_piecesWithout 119 = .ok (.iload 4, 2) := by decide +kernel
theorem d_Mod_piecesWithout_121 : decode b_Mod_piecesWithout 121 = .ok (.iaload, 1) := by decide +kernel
theorem d_Mod_piecesWithout_122 : decode b_Mod_piecesWithout 122 = .ok (.iaload, 1) := by decide +kernel
theorem d_Mod_piecesWithout_123 : decode b_Mod_piecesWithout 123 = .ok (.aload_n 0, 1) := by decide +kernel
theorem d_Mod_piecesWithout_124 : decode b_Mod_piecesWithout 124 = .ok (.getfield 59, 3) := by decide +kernel
theorem d_Mod_piecesWithout_127 : decode b_Mod_piecesWithout 127 = .ok (.aload_n 0, 1) := by decide +kernel
theorem d_Mod_piecesWithout_128 : decode b_Mod_piecesWithout 128 = .ok (.getfield 17, 3) := by decide +kernel
theorem d_Mod_piecesWithout_131 : decode b_Mod_piecesWithout 131 = .ok (.iload 4, 2) := by decide +kernel
theorem d_Mod_piecesWithout_133 : decode b_Mod_piecesWithout 133 = .ok (.iaload, 1) := by decide +kernel
theorem d_Mod_piecesWithout_134 : decode b_Mod_piecesWithout 134 = .ok (.iaload, 1) := by decide +kernel
theorem d_Mod_piecesWithout_135 : decode b_Mod_piecesWithout 135 = .ok (.if_icmp .eq 77, 3) := by decide +kernel
theorem d_Mod_piecesWithout_138 : decode b_Mod_piecesWithout 138 = .ok (.aload_n 0, 1) := by decide +kernel
theorem d_Mod_piecesWithout_139 : decode b_Mod_piecesWithout 139 = .ok (.getfield 59, 3) := by decide +kernel
theorem d_Mod_piecesWithout_142 : decode b_Mod_piecesWithout 142 = .ok (.aload_n 0, 1) := by decide +kernel
theorem d_Mod_piecesWithout_143 : decode b_Mod_piecesWithout 143 = .ok (.getfield 17, 3) := by decide +kernel
theorem d_Mod_piecesWithout_146 : decode b_Mod_piecesWithout 146 = .ok (.iload 4, 2) := by decide +kernel
theorem d_Mod_piecesWithout_148 : decode b_Mod_piecesWithout 148 = .ok (.iaload, 1) := by decide +kernel
theorem d_Mod_piecesWithout_149 : decode b_Mod_piecesWithout 149 = .ok (.iaload, 1) := by decide +kernel
theorem d_Mod_piecesWithout_150 : decode b_Mod_piecesWithout 150 = .ok (.istore 6, 2) := by decide +kernel
theorem d_Mod_piecesWithout_152 : decode b_Mod_piecesWithout 152 = .ok (.iconst 0, 1) := by decide +kernel
theorem d_Mod_piecesWithout_153 : decode b_Mod_piecesWithout 153 = .ok (.istore 7, 2) := by decide +kernel
theorem d_Mod_piecesWithout_155 : decode b_Mod_piecesWithout 155 = .ok (.iload 7, 2) := by decide +kernel
theorem d_Mod_piecesWithout_157 : decode b_Mod_piecesWithout 157 = .ok (.bipush 10, 2) := by decide +kernel
theorem d_Mod_piecesWithout_159 : decode b_Mod_piecesWithout 159 = .ok (.if_icmp .ge 50, 3) := by decide +kernel
theorem d_Mod_piecesWithout_162 : decode b_Mod_piecesWithout 162 = .ok (.aload_n 0, 1) := by decide +kernel
theorem d_Mod_piecesWithout_163 : decode b_Mod_piecesWithout 163 = .ok (.getfield 59, 3) := by decide +kernel
theorem d_Mod_piecesWithout_166 : decode b_Mod_piecesWithout 166 = .ok (.iload 7, 2) := by decide +kernel
theorem d_Mod_piecesWithout_168 : decode b_Mod_piecesWithout 168 = .ok (.aload_n 0, 1) := by decide +kernel
theorem d_Mod_piecesWithout_169 : decode b_Mod_piecesWithout 169 = .ok (.getfield 59, 3) := by decide +kernel
theorem d_Mod_piecesWithout_172 : decode b_Mod_piecesWithout 172 = .ok (.iload 7, 2) := by decide +kernel
theorem d_Mod_piecesWithout_174 : decode b_Mod_piecesWithout 174 = .ok (.iaload, 1) := by decide +kernel
theorem d_Mod_piecesWithout_175 : decode b_Mod_piecesWithout 175 = .ok (.iload 6, 2) := by decide +kernel
theorem d_Mod_piecesWithout_177 : decode b_Mod_piecesWithout 177 = .ok (.if_icmp .ne 18, 3) := by decide +kernel
theorem d_Mod_piecesWithout_180 : decode b_Mod_piecesWithout 180 = .ok (.aload_n 0, 1) := by decide +kernel
theorem d_Mod_piecesWithout_181 : decode b_Mod_piecesWithout 181 = .ok (.getfield 59, 3) := by decide +kernel
theorem d_Mod_piecesWithout_184 : decode b_Mod_piecesWithout 184 = .ok (.aload_n 0, 1) := by decide +kernel
theorem d_Mod_piecesWithout_185 : decode b_Mod_piecesWithout 185 = .ok (.getfield 13, 3) := by decide +kernel
theorem d_Mod_piecesWithout_188 : decode b_Mod_piecesWithout 188 = .ok (.iload 4, 2) := by decide +kernel
theorem d_Mod_piecesWithout_190 : decode b_Mod_piecesWithout 190 = .ok (.iaload, 1) := by decide +kernel
theorem d_Mod_piecesWithout_191 : decode b_Mod_piecesWithout 191 = .ok (.iaload, 1) := by decide +kernel
theorem d_Mod_piecesWithout_192 : decode b_Mod_piecesWithout 192 = .ok (.goto 10, 3) := by decide +kernel
theorem d_Mod_piecesWithout_195 : decode b_Mod_piecesWithout 195 = .ok (.aload_n 0, 1) := by decide +kernel
theorem d_Mod_piecesWithout_196 : decode b_Mod_piecesWithout 196 = .ok (.getfield 59, 3) := by decide +kernel
theorem d_Mod_piecesWithout_199 : decode b_Mod_piecesWithout 199 = .ok (.iload 7, 2) := by decide +kernel
theorem d_Mod_piecesWithout_201 : decode b_Mod_piecesWithout 201 = .ok (.iaload, 1) := by decide +kernel
theorem d_Mod_piecesWithout_202 : decode b_Mod_piecesWithout 202 = .ok (.iastore, 1) := by decide +kernel
theorem d_Mod_piecesWithout_203 : decode b_Mod_piecesWithout 203 = .ok (.iinc 7 1, 3) := by decide +kernel
theorem d_Mod_piecesWithout_206 : decode b_Mod_piecesWithout 206 = .ok (.goto (-51), 3) := by decide +kernel
theorem d_Mod_piecesWithout_209 : decode b_Mod_piecesWithout 209 = .ok (.iinc 3 (-1), 3) := by decide +kernel
theorem d_Mod_returns_0 : decode b_Mod_returns 0 = .ok (.aload_n 0, 1) := by decide +kernel
theorem d_Mod_returns_1 : decode b_Mod_returns 1 = .ok (.getfield 38, 3) := by decide +kernel
theorem d_Mod_returns_4 : decode b_Mod_returns 4 = .ok (.iload_n 1, 1) := by decide +kernel
theorem d_Mod_returns_5 : decode b_Mod_returns 5 = .ok (.iaload, 1) := by decide +kernel
theorem d_Mod_returns_6 : decode b_Mod_returns 6 = .ok (.iconst 2, 1) := by decide +kernel
theorem d_Mod_returns_7 : decode b_Mod_returns 7 = .ok (.if_icmp .ne 16, 3) := by decide +kernel
theorem d_Mod_returns_10 : decode b_Mod_returns 10 = .ok (.iload_n 2, 1) := by decide +kernel
theorem d_Mod_returns_11 : decode b_Mod_returns 11 = .ok (.iload_n 1, 1) := by decide +kernel
theorem d_Mod_returns_12 : decode b_Mod_returns 12 = .ok (.if_icmp .ne 7, 3) := by decide +kernel
theorem d_Mod_returns_15 : decode b_Mod_returns 15 = .ok (.iconst 1, 1) := by decide +kernel
theorem d_Mod_returns_16 : decode b_Mod_returns 16 = .ok (.goto 66, 3) := by decide +kernel
theorem d_Mod_returns_19 : decode b_Mod_returns 19 = .ok (.iconst 0, 1) := by decide +kernel
theorem d_Mod_returns_20 : decode b_Mod_returns 20 = .ok (.goto 62, 3) := by decide +kernel
theorem d_Mod_returns_23 : decode b_Mod_returns 23 = .ok (.aload_n 0, 1) := by decide +kernel
theorem d_Mod_returns_24 : decode b_Mod_returns 24 = .ok (.getfield 38, 3) := by decide +kernel
theorem d_Mod_returns_27 : decode b_Mod_returns 27 = .ok (.iload_n 2, 1) := by decide +kernel
theorem d_Mod_returns_28 : decode b_Mod_returns 28 = .ok (.iaload, 1) := by decide +kernel
theorem d_Mod_returns_29 : decode b_Mod_returns 29 = .ok (.iconst 2, 1) := by decide +kernel
theorem d_Mod_returns_30 : decode b_Mod_returns 30 = .ok (.if_icmp .ne 51, 3) := by decide +kernel
theorem d_Mod_returns_33 : decode b_Mod_returns 33 = .ok (.aload_n 0, 1) := by decide +kernel
theorem d_Mod_returns_34 : decode b_Mod_returns 34 = .ok (.getfield 41, 3) := by decide +kernel
theorem d_Mod_returns_37 : decode b_Mod_returns 37 = .ok (.aload_n 0, 1) := by decide +kernel
theorem d_Mod_returns_38 : decode b_Mod_returns 38 = .ok (.getfield 35, 3) := by decide +kernel
theorem d_Mod_returns_41 : decode b_Mod_returns 41 = .ok (.iload_n 2, 1) := by decide +kernel
theorem d_Mod_returns_42 : decode b_Mod_returns 42 = .ok (.iaload, 1) := by decide +kernel
theorem d_Mod_returns_43 : decode b_Mod_returns 43 = .ok (.iaload, 1) := by decide +kernel
theorem d_Mod_returns_44 : decode b_Mod_returns 44 = .ok (.aload_n 0, 1) := by decide +kernel
theorem d_Mod_returns_45 : decode b_Mod_returns 45 = .ok (.getfield 41, 3) := by decide +kernel
theorem d_Mod_returns_48 : decode b_Mod_returns 48 = .ok (.aload_n 0, 1) := by decide +kernel
theorem d_Mod_returns_49 : decode b_Mod_returns 49 = .ok (.getfield 32, 3) := by decide +kernel
theorem d_Mod_returns_52 : decode b_Mod_returns 52 = .ok (.iload_n 1, 1) := by decide +kernel
theorem d_Mod_returns_53 : decode b_Mod_returns 53 = .ok (.iaload, 1) := by decide +kernel
theorem d_Mod_returns_54 : decode b_Mod_returns 54 = .ok (.iaload, 1) := by decide +kernel
theorem d_Mod_returns_55 : decode b_Mod_returns 55 = .ok (.if_icmp .ge 26, 3) := by decide +kernel
theorem d_Mod_returns_58 : decode b_Mod_returns 58 = .ok (.aload_n 0, 1) := by decide +kernel
theorem d_Mod_returns_59 : decode b_Mod_returns 59 = .ok (.aload_n 0, 1) := by decide +kernel
theorem d_Mod_returns_60 : decode b_Mod_returns 60 = .ok (.getfield 32, 3) := by decide +kernel
theorem d_Mod_returns_63 : decode b_Mod_returns 63 = .ok (.iload_n 2, 1) := by decide +kernel
theorem d_Mod_returns_64 : decode b_Mod_returns 64 = .ok (.iaload, 1) := by decide +kernel
theorem d_Mod_returns_65 : decode b_Mod_returns 65 = .ok (.aload_n 0, 1) := by decide +kernel
theorem d_Mod_returns_66 : decode b_Mod_returns 66 = .ok (.getfield 35, 3) := by decide +kernel
theorem d_Mod_returns_69 : decode b_Mod_returns 69 = .ok (.iload_n 1, 1) := by decide +kernel
theorem d_Mod_returns_70 : decode b_Mod_returns 70 = .ok (.iaload, 1) := by decide +kernel
theorem d_Mod_returns_71 : decode b_Mod_returns 71 = .ok (.invokevirtual 117, 3) := by decide +kernel
theorem d_Mod_returns_74 : decode b_Mod_returns 74 = .ok (.ifCond .eq 7, 3) := by decide +kernel
theorem d_Mod_returns_77 : decode b_Mod_returns 77 = .ok (.iconst 1, 1) := by decide +kernel
theorem d_Mod_returns_78 : decode b_Mod_returns 78 = .ok (.goto 4, 3) := by decide +kernel
theorem d_Mod_returns_81 : decode b_Mod_returns 81 = .ok (.iconst 0, 1) := by decide +kernel
theorem d_Mod_returns_82 : decode b_Mod_returns 82 = .ok (.ireturn, 1) := by decide +kernel
theorem d_Mod_room_34 : decode b_Mod_room 34 = .ok (.aload_n 0, 1) := by decide +kernel
theorem d_Mod_room_35 : decode b_Mod_room 35 = .ok (.getfield 7, 3) := by decide +kernel
theorem d_Mod_room_38 : decode b_Mod_room 38 = .ok (.iload_n 3, 1) := by decide +kernel
theorem d_Mod_room_39 : decode b_Mod_room 39 = .ok (.baload, 1) := by decide +kernel
theorem d_Mod_room_40 : decode b_Mod_room 40 = .ok (.ifCond .eq 27, 3) := by decide +kernel
theorem d_Mod_room_43 : decode b_Mod_room 43 = .ok (.aload_n 0, 1) := by decide +kernel
theorem d_Mod_room_44 : decode b_Mod_room 44 = .ok (.iload_n 2, 1) := by decide +kernel
theorem d_Mod_room_45 : decode b_Mod_room 45 = .ok (.iload_n 3, 1) := by decide +kernel
theorem d_Mod_room_46 : decode b_Mod_room 46 = .ok (.invokevirtual 87, 3) := by decide +kernel
theorem d_Mod_room_49 : decode b_Mod_room 49 = .ok (.ifCond .ge 18, 3) := by decide +kernel
theorem d_Mod_room_52 : decode b_Mod_room 52 = .ok (.aload_n 0, 1) := by decide +kernel
theorem d_Mod_room_53 : decode b_Mod_room 53 = .ok (.iload_n 2, 1) := by decide +kernel
theorem d_Mod_room_54 : decode b_Mod_room 54 = .ok (.iload_n 3, 1) := by decide +kernel
theorem d_Mod_room_55 : decode b_Mod_room 55 = .ok (.invokevirtual 173, 3) := by decide +kernel
theorem d_Mod_room_58 : decode b_Mod_room 58 = .ok (.ifCond .eq 9, 3) := by decide +kernel
theorem d_Mod_room_61 : decode b_Mod_room 61 = .ok (.iload_n 1, 1) := by decide +kernel
theorem d_Mod_room_62 : decode b_Mod_room 62 = .ok (.iconst 1, 1) := by decide +kernel
theorem d_Mod_room_63 : decode b_Mod_room 63 = .ok (.iadd, 1) := by decide +kernel
theorem d_Mod_room_64 : decode b_Mod_room 64 = .ok (.goto 4, 3) := by decide +kernel
theorem d_Mod_spare_20 : decode b_Mod_spare 20 = .ok (.iconst 0, 1) := by decide +kernel
theorem d_Mod_spare_21 : decode b_Mod_spare 21 = .ok (.istore_n 2, 1) := by decide +kernel
theorem d_Mod_spare_22 : decode b_Mod_spare 22 = .ok (.iconst 0, 1) := by decide +kernel
theorem d_Mod_spare_23 : decode b_Mod_spare 23 = .ok (.istore_n 3, 1) := by decide +kernel
theorem d_Mod_spare_24 : decode b_Mod_spare 24 = .ok (.iload_n 3, 1) := by decide +kernel
theorem d_Mod_spare_25 : decode b_Mod_spare 25 = .ok (.bipush 24, 2) := by decide +kernel
theorem d_Mod_spare_27 : decode b_Mod_spare 27 = .ok (.if_icmp .ge 34, 3) := by decide +kernel
theorem d_Mod_spare_30 : decode b_Mod_spare 30 = .ok (.iload_n 1, 1) := by decide +kernel
theorem d_Mod_spare_31 : decode b_Mod_spare 31 = .ok (.iload_n 3, 1) := by decide +kernel
theorem d_Mod_spare_32 : decode b_Mod_spare 32 = .ok (.ishr, 1) := by decide +kernel
theorem d_Mod_spare_33 : decode b_Mod_spare 33 = .ok (.iconst 1, 1) := by decide +kernel
theorem d_Mod_spare_34 : decode b_Mod_spare 34 = .ok (.iand, 1) := by decide +kernel
theorem d_Mod_spare_35 : decode b_Mod_spare 35 = .ok (.iconst 1, 1) := by decide +kernel
theorem d_Mod_spare_36 : decode b_Mod_spare 36 = .ok (.if_icmp .ne 19, 3) := by decide +kernel
theorem d_Mod_spare_39 : decode b_Mod_spare 39 = .ok (.aload_n 0, 1) := by decide +kernel
theorem d_Mod_spare_40 : decode b_Mod_spare 40 = .ok (.iload_n 1, 1) := by decide +kernel
theorem d_Mod_spare_41 : decode b_Mod_spare 41 = .ok (.iconst 1, 1) := by decide +kernel
theorem d_Mod_spare_42 : decode b_Mod_spare 42 = .ok (.iload_n 3, 1) := by decide +kernel
theorem d_Mod_spare_43 : decode b_Mod_spare 43 = .ok (.ishl, 1) := by decide +kernel
theorem d_Mod_spare_44 : decode b_Mod_spare 44 = .ok (.iconst (-1), 1) := by decide +kernel
theorem d_Mod_spare_45 : decode b_Mod_spare 45 = .ok (.ixor, 1) := by decide +kernel
theorem d_Mod_spare_46 : decode b_Mod_spare 46 = .ok (.iand, 1) := by decide +kernel
theorem d_Mod_spare_47 : decode b_Mod_spare 47 = .ok (.invokevirtual 151, 3) := by decide +kernel
theorem d_Mod_spare_50 : decode b_Mod_spare 50 = .ok (.ifCond .eq 5, 3) := by decide +kernel
theorem d_Mod_spare_53 : decode b_Mod_spare 53 = .ok (.iconst 1, 1) := by decide +kernel
theorem d_Mod_spare_54 : decode b_Mod_spare 54 = .ok (.ireturn, 1) := by decide +kernel
theorem d_Mod_spare_55 : decode b_Mod_spare 55 = .ok (.iinc 3 1, 3) := by decide +kernel
theorem d_Mod_spare_58 : decode b_Mod_spare 58 = .ok (.goto (-34), 3) := by decide +kernel
theorem d_Mod_spare_61 : decode b_Mod_spare 61 = .ok (.iconst 0, 1) := by decide +kernel
theorem d_Mod_spare_62 : decode b_Mod_spare 62 = .ok (.istore_n 3, 1) := by decide +kernel
theorem d_Mod_spare_63 : decode b_Mod_spare 63 = .ok (.iload_n 3, 1) := by decide +kernel
theorem d_Mod_spare_64 : decode b_Mod_spare 64 = .ok (.bipush 24, 2) := by decide +kernel
theorem d_Mod_spare_66 : decode b_Mod_spare 66 = .ok (.if_icmp .ge 77, 3) := by decide +kernel
theorem d_Mod_spare_69 : decode b_Mod_spare 69 = .ok (.iload_n 3, 1) := by decide +kernel
theorem d_Mod_spare_70 : decode b_Mod_spare 70 = .ok (.iconst 1, 1) := by decide +kernel
theorem d_Mod_spare_71 : decode b_Mod_spare 71 = .ok (.iadd, 1) := by decide +kernel
theorem d_Mod_spare_72 : decode b_Mod_spare 72 = .ok (.istore 4, 2) := by decide +kernel
theorem d_Mod_spare_74 : decode b_Mod_spare 74 = .ok (.iload 4, 2) := by decide +kernel
theorem d_Mod_spare_76 : decode b_Mod_spare 76 = .ok (.bipush 24, 2) := by decide +kernel
theorem d_Mod_spare_78 : decode b_Mod_spare 78 = .ok (.if_icmp .ge 59, 3) := by decide +kernel
