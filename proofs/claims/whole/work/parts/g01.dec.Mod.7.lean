theorem d_Mod_spare_81 : decode b_Mod_spare 81 = .ok (.iload_n 2, 1) := by decide +kernel
theorem d_Mod_spare_82 : decode b_Mod_spare 82 = .ok (.ifCond .ne 55, 3) := by decide +kernel
theorem d_Mod_spare_85 : decode b_Mod_spare 85 = .ok (.iload_n 1, 1) := by decide +kernel
theorem d_Mod_spare_86 : decode b_Mod_spare 86 = .ok (.iload_n 3, 1) := by decide +kernel
theorem d_Mod_spare_87 : decode b_Mod_spare 87 = .ok (.ishr, 1) := by decide +kernel
theorem d_Mod_spare_88 : decode b_Mod_spare 88 = .ok (.iconst 1, 1) := by decide +kernel
theorem d_Mod_spare_89 : decode b_Mod_spare 89 = .ok (.iand, 1) := by decide +kernel
theorem d_Mod_spare_90 : decode b_Mod_spare 90 = .ok (.iconst 1, 1) := by decide +kernel
theorem d_Mod_spare_91 : decode b_Mod_spare 91 = .ok (.if_icmp .ne 38, 3) := by decide +kernel
theorem d_Mod_spare_94 : decode b_Mod_spare 94 = .ok (.iload_n 1, 1) := by decide +kernel
theorem d_Mod_spare_95 : decode b_Mod_spare 95 = .ok (.iload 4, 2) := by decide +kernel
theorem d_Mod_spare_97 : decode b_Mod_spare 97 = .ok (.ishr, 1) := by decide +kernel
theorem d_Mod_spare_98 : decode b_Mod_spare 98 = .ok (.iconst 1, 1) := by decide +kernel
theorem d_Mod_spare_99 : decode b_Mod_spare 99 = .ok (.iand, 1) := by decide +kernel
theorem d_Mod_spare_100 : decode b_Mod_spare 100 = .ok (.iconst 1, 1) := by decide +kernel
theorem d_Mod_spare_101 : decode b_Mod_spare 101 = .ok (.if_icmp .ne 28, 3) := by decide +kernel
theorem d_Mod_spare_104 : decode b_Mod_spare 104 = .ok (.aload_n 0, 1) := by decide +kernel
theorem d_Mod_spare_105 : decode b_Mod_spare 105 = .ok (.iload_n 1, 1) := by decide +kernel
theorem d_Mod_spare_106 : decode b_Mod_spare 106 = .ok (.iconst 1, 1) := by decide +kernel
theorem d_Mod_spare_107 : decode b_Mod_spare 107 = .ok (.iload_n 3, 1) := by decide +kernel
theorem d_Mod_spare_108 : decode b_Mod_spare 108 = .ok (.ishl, 1) := by decide +kernel
theorem d_Mod_spare_109 : decode b_Mod_spare 109 = .ok (.iconst (-1), 1) := by decide +kernel
theorem d_Mod_spare_110 : decode b_Mod_spare 110 = .ok (.ixor, 1) := by decide +kernel
theorem d_Mod_spare_111 : decode b_Mod_spare 111 = .ok (.iand, 1) := by decide +kernel
theorem d_Mod_spare_112 : decode b_Mod_spare 112 = .ok (.iconst 1, 1) := by decide +kernel
theorem d_Mod_spare_113 : decode b_Mod_spare 113 = .ok (.iload 4, 2) := by decide +kernel
theorem d_Mod_spare_115 : decode b_Mod_spare 115 = .ok (.ishl, 1) := by decide +kernel
theorem d_Mod_spare_116 : decode b_Mod_spare 116 = .ok (.iconst (-1), 1) := by decide +kernel
theorem d_Mod_spare_117 : decode b_Mod_spare 117 = .ok (.ixor, 1) := by decide +kernel
theorem d_Mod_spare_118 : decode b_Mod_spare 118 = .ok (.iand, 1) := by decide +kernel
theorem d_Mod_spare_119 : decode b_Mod_spare 119 = .ok (.invokevirtual 151, 3) := by decide +kernel
theorem d_Mod_spare_122 : decode b_Mod_spare 122 = .ok (.ifCond .eq 7, 3) := by decide +kernel
theorem d_Mod_spare_125 : decode b_Mod_spare 125 = .ok (.iconst 1, 1) := by decide +kernel
theorem d_Mod_spare_126 : decode b_Mod_spare 126 = .ok (.goto 4, 3) := by decide +kernel
theorem d_Mod_spare_129 : decode b_Mod_spare 129 = .ok (.iconst 0, 1) := by decide +kernel
theorem d_Mod_spare_130 : decode b_Mod_spare 130 = .ok (.istore_n 2, 1) := by decide +kernel
theorem d_Mod_spare_131 : decode b_Mod_spare 131 = .ok (.iinc 4 1, 3) := by decide +kernel
theorem d_Mod_spare_134 : decode b_Mod_spare 134 = .ok (.goto (-60), 3) := by decide +kernel
theorem d_Mod_spare_137 : decode b_Mod_spare 137 = .ok (.iinc 3 1, 3) := by decide +kernel
theorem d_Mod_spare_140 : decode b_Mod_spare 140 = .ok (.goto (-77), 3) := by decide +kernel
theorem d_Mod_spare_143 : decode b_Mod_spare 143 = .ok (.iload_n 2, 1) := by decide +kernel
theorem d_Mod_spare_144 : decode b_Mod_spare 144 = .ok (.ifCond .eq 7, 3) := by decide +kernel
theorem d_Mod_spare_147 : decode b_Mod_spare 147 = .ok (.iconst 2, 1) := by decide +kernel
theorem d_Mod_spare_148 : decode b_Mod_spare 148 = .ok (.goto 4, 3) := by decide +kernel
theorem d_Mod_spare_151 : decode b_Mod_spare 151 = .ok (.iconst 3, 1) := by decide +kernel
theorem d_Mod_spare_152 : decode b_Mod_spare 152 = .ok (.ireturn, 1) := by decide +kernel
theorem d_Mod_turn_0 : decode b_Mod_turn 0 = .ok (.aload_n 0, 1) := by decide +kernel
theorem d_Mod_turn_1 : decode b_Mod_turn 1 = .ok (.getfield 20, 3) := by decide +kernel
theorem d_Mod_turn_4 : decode b_Mod_turn 4 = .ok (.iload_n 2, 1) := by decide +kernel
theorem d_Mod_turn_5 : decode b_Mod_turn 5 = .ok (.iaload, 1) := by decide +kernel
theorem d_Mod_turn_6 : decode b_Mod_turn 6 = .ok (.aload_n 0, 1) := by decide +kernel
theorem d_Mod_turn_7 : decode b_Mod_turn 7 = .ok (.getfield 20, 3) := by decide +kernel
theorem d_Mod_turn_10 : decode b_Mod_turn 10 = .ok (.iload_n 1, 1) := by decide +kernel
theorem d_Mod_turn_11 : decode b_Mod_turn 11 = .ok (.iaload, 1) := by decide +kernel
theorem d_Mod_turn_12 : decode b_Mod_turn 12 = .ok (.isub, 1) := by decide +kernel
theorem d_Mod_turn_13 : decode b_Mod_turn 13 = .ok (.aload_n 0, 1) := by decide +kernel
theorem d_Mod_turn_14 : decode b_Mod_turn 14 = .ok (.getfield 23, 3) := by decide +kernel
theorem d_Mod_turn_17 : decode b_Mod_turn 17 = .ok (.iload_n 3, 1) := by decide +kernel
theorem d_Mod_turn_18 : decode b_Mod_turn 18 = .ok (.iaload, 1) := by decide +kernel
theorem d_Mod_turn_19 : decode b_Mod_turn 19 = .ok (.aload_n 0, 1) := by decide +kernel
theorem d_Mod_turn_20 : decode b_Mod_turn 20 = .ok (.getfield 23, 3) := by decide +kernel
theorem d_Mod_turn_23 : decode b_Mod_turn 23 = .ok (.iload_n 1, 1) := by decide +kernel
theorem d_Mod_turn_24 : decode b_Mod_turn 24 = .ok (.iaload, 1) := by decide +kernel
theorem d_Mod_turn_25 : decode b_Mod_turn 25 = .ok (.isub, 1) := by decide +kernel
theorem d_Mod_turn_26 : decode b_Mod_turn 26 = .ok (.imul, 1) := by decide +kernel
theorem d_Mod_turn_27 : decode b_Mod_turn 27 = .ok (.aload_n 0, 1) := by decide +kernel
theorem d_Mod_turn_28 : decode b_Mod_turn 28 = .ok (.getfield 23, 3) := by decide +kernel
theorem d_Mod_turn_31 : decode b_Mod_turn 31 = .ok (.iload_n 2, 1) := by decide +kernel
theorem d_Mod_turn_32 : decode b_Mod_turn 32 = .ok (.iaload, 1) := by decide +kernel
theorem d_Mod_turn_33 : decode b_Mod_turn 33 = .ok (.aload_n 0, 1) := by decide +kernel
theorem d_Mod_turn_34 : decode b_Mod_turn 34 = .ok (.getfield 23, 3) := by decide +kernel
theorem d_Mod_turn_37 : decode b_Mod_turn 37 = .ok (.iload_n 1, 1) := by decide +kernel
theorem d_Mod_turn_38 : decode b_Mod_turn 38 = .ok (.iaload, 1) := by decide +kernel
theorem d_Mod_turn_39 : decode b_Mod_turn 39 = .ok (.isub, 1) := by decide +kernel
theorem d_Mod_turn_40 : decode b_Mod_turn 40 = .ok (.aload_n 0, 1) := by decide +kernel
theorem d_Mod_turn_41 : decode b_Mod_turn 41 = .ok (.getfield 20, 3) := by decide +kernel
theorem d_Mod_turn_44 : decode b_Mod_turn 44 = .ok (.iload_n 3, 1) := by decide +kernel
theorem d_Mod_turn_45 : decode b_Mod_turn 45 = .ok (.iaload, 1) := by decide +kernel
theorem d_Mod_turn_46 : decode b_Mod_turn 46 = .ok (.aload_n 0, 1) := by decide +kernel
theorem d_Mod_turn_47 : decode b_Mod_turn 47 = .ok (.getfield 20, 3) := by decide +kernel
theorem d_Mod_turn_50 : decode b_Mod_turn 50 = .ok (.iload_n 1, 1) := by decide +kernel
theorem d_Mod_turn_51 : decode b_Mod_turn 51 = .ok (.iaload, 1) := by decide +kernel
theorem d_Mod_turn_52 : decode b_Mod_turn 52 = .ok (.isub, 1) := by decide +kernel
theorem d_Mod_turn_53 : decode b_Mod_turn 53 = .ok (.imul, 1) := by decide +kernel
theorem d_Mod_turn_54 : decode b_Mod_turn 54 = .ok (.isub, 1) := by decide +kernel
theorem d_Mod_turn_55 : decode b_Mod_turn 55 = .ok (.istore 4, 2) := by decide +kernel
theorem d_Mod_turn_57 : decode b_Mod_turn 57 = .ok (.iload 4, 2) := by decide +kernel
theorem d_Mod_turn_59 : decode b_Mod_turn 59 = .ok (.ifCond .le 7, 3) := by decide +kernel
theorem d_Mod_turn_62 : decode b_Mod_turn 62 = .ok (.iconst 1, 1) := by decide +kernel
theorem d_Mod_turn_63 : decode b_Mod_turn 63 = .ok (.goto 13, 3) := by decide +kernel
theorem d_Mod_turn_66 : decode b_Mod_turn 66 = .ok (.iload 4, 2) := by decide +kernel
theorem d_Mod_turn_68 : decode b_Mod_turn 68 = .ok (.ifCond .ge 7, 3) := by decide +kernel
theorem d_Mod_turn_71 : decode b_Mod_turn 71 = .ok (.iconst (-1), 1) := by decide +kernel
theorem d_Mod_turn_72 : decode b_Mod_turn 72 = .ok (.goto 4, 3) := by decide +kernel
theorem d_Mod_turn_75 : decode b_Mod_turn 75 = .ok (.iconst 0, 1) := by decide +kernel
theorem d_Mod_turn_76 : decode b_Mod_turn 76 = .ok (.ireturn, 1) := by decide +kernel
theorem d_Mod_turnOf_0 : decode b_Mod_turnOf 0 = .ok (.iload_n 1, 1) := by decide +kernel
theorem d_Mod_turnOf_1 : decode b_Mod_turnOf 1 = .ok (.istore_n 2, 1) := by decide +kernel
theorem d_Mod_turnOf_2 : decode b_Mod_turnOf 2 = .ok (.aload_n 0, 1) := by decide +kernel
theorem d_Mod_turnOf_3 : decode b_Mod_turnOf 3 = .ok (.getfield 56, 3) := by decide +kernel
theorem d_Mod_turnOf_6 : decode b_Mod_turnOf 6 = .ok (.iload_n 2, 1) := by decide +kernel
theorem d_Mod_turnOf_7 : decode b_Mod_turnOf 7 = .ok (.iaload, 1) := by decide +kernel
theorem d_Mod_turnOf_8 : decode b_Mod_turnOf 8 = .ok (.istore_n 3, 1) := by decide +kernel
theorem d_Mod_turnOf_9 : decode b_Mod_turnOf 9 = .ok (.aload_n 0, 1) := by decide +kernel
theorem d_Mod_turnOf_10 : decode b_Mod_turnOf 10 = .ok (.getfield 53, 3) := by decide +kernel
theorem d_Mod_turnOf_13 : decode b_Mod_turnOf 13 = .ok (.iload_n 2, 1) := by decide +kernel
theorem d_Mod_turnOf_14 : decode b_Mod_turnOf 14 = .ok (.iaload, 1) := by decide +kernel
theorem d_Mod_turnOf_15 : decode b_Mod_turnOf 15 = .ok (.iload_n 2, 1) := by decide +kernel
theorem d_Mod_turnOf_16 : decode b_Mod_turnOf 16 = .ok (.if_icmp .eq 22, 3) := by decide +kernel
theorem d_Mod_turnOf_19 : decode b_Mod_turnOf 19 = .ok (.aload_n 0, 1) := by decide +kernel
theorem d_Mod_turnOf_20 : decode b_Mod_turnOf 20 = .ok (.getfield 53, 3) := by decide +kernel
theorem d_Mod_turnOf_23 : decode b_Mod_turnOf 23 = .ok (.iload_n 2, 1) := by decide +kernel
theorem d_Mod_turnOf_24 : decode b_Mod_turnOf 24 = .ok (.iaload, 1) := by decide +kernel
theorem d_Mod_turnOf_25 : decode b_Mod_turnOf 25 = .ok (.istore_n 2, 1) := by decide +kernel
theorem d_Mod_turnOf_26 : decode b_Mod_turnOf 26 = .ok (.iload_n 3, 1) := by decide +kernel
theorem d_Mod_turnOf_27 : decode b_Mod_turnOf 27 = .ok (.aload_n 0, 1) := by decide +kernel
theorem d_Mod_turnOf_28 : decode b_Mod_turnOf 28 = .ok (.getfield 56, 3) := by decide +kernel
theorem d_Mod_turnOf_31 : decode b_Mod_turnOf 31 = .ok (.iload_n 2, 1) := by decide +kernel
theorem d_Mod_turnOf_32 : decode b_Mod_turnOf 32 = .ok (.iaload, 1) := by decide +kernel
theorem d_Mod_turnOf_33 : decode b_Mod_turnOf 33 = .ok (.ixor, 1) := by decide +kernel
theorem d_Mod_turnOf_34 : decode b_Mod_turnOf 34 = .ok (.istore_n 3, 1) := by decide +kernel
theorem d_Mod_turnOf_35 : decode b_Mod_turnOf 35 = .ok (.goto (-26), 3) := by decide +kernel
theorem d_Mod_turnOf_38 : decode b_Mod_turnOf 38 = .ok (.iload_n 3, 1) := by decide +kernel
theorem d_Mod_turnOf_39 : decode b_Mod_turnOf 39 = .ok (.ireturn, 1) := by decide +kernel
theorem d_Mod_walk_10 : decode b_Mod_walk 10 = .ok (.aload_n 0, 1) := by decide +kernel
theorem d_Mod_walk_11 : decode b_Mod_walk 11 = .ok (.getfield 38, 3) := by decide +kernel
theorem d_Mod_walk_14 : decode b_Mod_walk 14 = .ok (.iload_n 1, 1) := by decide +kernel
theorem d_Mod_walk_15 : decode b_Mod_walk 15 = .ok (.iconst 0, 1) := by decide +kernel
theorem d_Mod_walk_16 : decode b_Mod_walk 16 = .ok (.iastore, 1) := by decide +kernel
theorem d_Mod_walk_17 : decode b_Mod_walk 17 = .ok (.aload_n 0, 1) := by decide +kernel
theorem d_Mod_walk_18 : decode b_Mod_walk 18 = .ok (.getfield 53, 3) := by decide +kernel
theorem d_Mod_walk_21 : decode b_Mod_walk 21 = .ok (.iload_n 1, 1) := by decide +kernel
theorem d_Mod_walk_22 : decode b_Mod_walk 22 = .ok (.iload_n 1, 1) := by decide +kernel
theorem d_Mod_walk_23 : decode b_Mod_walk 23 = .ok (.iastore, 1) := by decide +kernel
theorem d_Mod_walk_24 : decode b_Mod_walk 24 = .ok (.aload_n 0, 1) := by decide +kernel
theorem d_Mod_walk_25 : decode b_Mod_walk 25 = .ok (.getfield 56, 3) := by decide +kernel
theorem d_Mod_walk_28 : decode b_Mod_walk 28 = .ok (.iload_n 1, 1) := by decide +kernel
theorem d_Mod_walk_29 : decode b_Mod_walk 29 = .ok (.iconst 0, 1) := by decide +kernel
theorem d_Mod_walk_30 : decode b_Mod_walk 30 = .ok (.iastore, 1) := by decide +kernel
theorem d_Mod_walk_31 : decode b_Mod_walk 31 = .ok (.iinc 1 1, 3) := by decide +kernel
theorem d_Mod_walk_34 : decode b_Mod_walk 34 = .ok (.goto (-32), 3) := by decide +kernel
theorem d_Mod_walkFrom_80 : decode b_Mod_walkFrom 80 = .ok (.aload_n 0, 1) := by decide +kernel
theorem d_Mod_walkFrom_81 : decode b_Mod_walkFrom 81 = .ok (.getfield 38, 3) := by decide +kernel
theorem d_Mod_walkFrom_84 : decode b_Mod_walkFrom 84 = .ok (.iload 4, 2) := by decide +kernel
theorem d_Mod_walkFrom_86 : decode b_Mod_walkFrom 86 = .ok (.iaload, 1) := by decide +kernel
theorem d_Mod_walkFrom_87 : decode b_Mod_walkFrom 87 = .ok (.ifCond .ne 145, 3) := by decide +kernel
theorem d_Mod_walkFrom_90 : decode b_Mod_walkFrom 90 = .ok (.aload_n 0, 1) := by decide +kernel
theorem d_Mod_walkFrom_91 : decode b_Mod_walkFrom 91 = .ok (.getfield 26, 3) := by decide +kernel
theorem d_Mod_walkFrom_94 : decode b_Mod_walkFrom 94 = .ok (.iload 4, 2) := by decide +kernel
theorem d_Mod_walkFrom_96 : decode b_Mod_walkFrom 96 = .ok (.iaload, 1) := by decide +kernel
theorem d_Mod_walkFrom_97 : decode b_Mod_walkFrom 97 = .ok (.iload_n 3, 1) := by decide +kernel
theorem d_Mod_walkFrom_98 : decode b_Mod_walkFrom 98 = .ok (.if_icmp .eq 14, 3) := by decide +kernel
theorem d_Mod_walkFrom_101 : decode b_Mod_walkFrom 101 = .ok (.aload_n 0, 1) := by decide +kernel
theorem d_Mod_walkFrom_102 : decode b_Mod_walkFrom 102 = .ok (.getfield 29, 3) := by decide +kernel
theorem d_Mod_walkFrom_105 : decode b_Mod_walkFrom 105 = .ok (.iload 4, 2) := by decide +kernel
theorem d_Mod_walkFrom_107 : decode b_Mod_walkFrom 107 = .ok (.iaload, 1) := by decide +kernel
theorem d_Mod_walkFrom_108 : decode b_Mod_walkFrom 108 = .ok (.iload_n 3, 1) := by decide +kernel
theorem d_Mod_walkFrom_109 : decode b_Mod_walkFrom 109 = .ok (.if_icmp .ne 123, 3) := by decide +kernel
theorem d_Mod_walkFrom_112 : decode b_Mod_walkFrom 112 = .ok (.aload_n 0, 1) := by decide +kernel
theorem d_Mod_walkFrom_113 : decode b_Mod_walkFrom 113 = .ok (.getfield 26, 3) := by decide +kernel
theorem d_Mod_walkFrom_116 : decode b_Mod_walkFrom 116 = .ok (.iload 4, 2) := by decide +kernel
theorem d_Mod_walkFrom_118 : decode b_Mod_walkFrom 118 = .ok (.iaload, 1) := by decide +kernel
theorem d_Mod_walkFrom_119 : decode b_Mod_walkFrom 119 = .ok (.iload_n 3, 1) := by decide +kernel
theorem d_Mod_walkFrom_120 : decode b_Mod_walkFrom 120 = .ok (.if_icmp .ne 13, 3) := by decide +kernel
theorem d_Mod_walkFrom_123 : decode b_Mod_walkFrom 123 = .ok (.aload_n 0, 1) := by decide +kernel
theorem d_Mod_walkFrom_124 : decode b_Mod_walkFrom 124 = .ok (.getfield 29, 3) := by decide +kernel
theorem d_Mod_walkFrom_127 : decode b_Mod_walkFrom 127 = .ok (.iload 4, 2) := by decide +kernel
theorem d_Mod_walkFrom_129 : decode b_Mod_walkFrom 129 = .ok (.iaload, 1) := by decide +kernel
theorem d_Mod_walkFrom_130 : decode b_Mod_walkFrom 130 = .ok (.goto 10, 3) := by decide +kernel
theorem d_Mod_walkFrom_133 : decode b_Mod_walkFrom 133 = .ok (.aload_n 0, 1) := by decide +kernel
theorem d_Mod_walkFrom_134 : decode b_Mod_walkFrom 134 = .ok (.getfield 26, 3) := by decide +kernel
theorem d_Mod_walkFrom_137 : decode b_Mod_walkFrom 137 = .ok (.iload 4, 2) := by decide +kernel
theorem d_Mod_walkFrom_139 : decode b_Mod_walkFrom 139 = .ok (.iaload, 1) := by decide +kernel
theorem d_Mod_walkFrom_140 : decode b_Mod_walkFrom 140 = .ok (.istore 5, 2) := by decide +kernel
theorem d_Mod_walkFrom_142 : decode b_Mod_walkFrom 142 = .ok (.aload_n 0, 1) := by decide +kernel
theorem d_Mod_walkFrom_143 : decode b_Mod_walkFrom 143 = .ok (.getfield 32, 3) := by decide +kernel
theorem d_Mod_walkFrom_146 : decode b_Mod_walkFrom 146 = .ok (.iload 4, 2) := by decide +kernel
theorem d_Mod_walkFrom_148 : decode b_Mod_walkFrom 148 = .ok (.iload_n 3, 1) := by decide +kernel
theorem d_Mod_walkFrom_149 : decode b_Mod_walkFrom 149 = .ok (.iastore, 1) := by decide +kernel
theorem d_Mod_walkFrom_150 : decode b_Mod_walkFrom 150 = .ok (.aload_n 0, 1) := by decide +kernel
theorem d_Mod_walkFrom_151 : decode b_Mod_walkFrom 151 = .ok (.getfield 35, 3) := by decide +kernel
theorem d_Mod_walkFrom_154 : decode b_Mod_walkFrom 154 = .ok (.iload 4, 2) := by decide +kernel
theorem d_Mod_walkFrom_156 : decode b_Mod_walkFrom 156 = .ok (.iload 5, 2) := by decide +kernel
theorem d_Mod_walkFrom_158 : decode b_Mod_walkFrom 158 = .ok (.iastore, 1) := by decide +kernel
theorem d_Mod_walkFrom_159 : decode b_Mod_walkFrom 159 = .ok (.aload_n 0, 1) := by decide +kernel
theorem d_Mod_walkFrom_160 : decode b_Mod_walkFrom 160 = .ok (.getfield 38, 3) := by decide +kernel
theorem d_Mod_walkFrom_163 : decode b_Mod_walkFrom 163 = .ok (.iload 4, 2) := by decide +kernel
theorem d_Mod_walkFrom_165 : decode b_Mod_walkFrom 165 = .ok (.aload_n 0, 1) := by decide +kernel
theorem d_Mod_walkFrom_166 : decode b_Mod_walkFrom 166 = .ok (.getfield 41, 3) := by decide +kernel
theorem d_Mod_walkFrom_169 : decode b_Mod_walkFrom 169 = .ok (.iload 5, 2) := by decide +kernel
theorem d_Mod_walkFrom_171 : decode b_Mod_walkFrom 171 = .ok (.iaload, 1) := by decide +kernel
theorem d_Mod_walkFrom_172 : decode b_Mod_walkFrom 172 = .ok (.ifCond .ge 7, 3) := by decide +kernel
theorem d_Mod_walkFrom_175 : decode b_Mod_walkFrom 175 = .ok (.iconst 1, 1) := by decide +kernel
theorem d_Mod_walkFrom_176 : decode b_Mod_walkFrom 176 = .ok (.goto 4, 3) := by decide +kernel
theorem d_Mod_walkFrom_179 : decode b_Mod_walkFrom 179 = .ok (.iconst 2, 1) := by decide +kernel
theorem d_Mod_walkFrom_180 : decode b_Mod_walkFrom 180 = .ok (.iastore, 1) := by decide +kernel
theorem d_Mod_walkFrom_181 : decode b_Mod_walkFrom 181 = .ok (.aload_n 0, 1) := by decide +kernel
theorem d_Mod_walkFrom_182 : decode b_Mod_walkFrom 182 = .ok (.getfield 41, 3) := by decide +kernel
theorem d_Mod_walkFrom_185 : decode b_Mod_walkFrom 185 = .ok (.iload 5, 2) := by decide +kernel
theorem d_Mod_walkFrom_187 : decode b_Mod_walkFrom 187 = .ok (.iaload, 1) := by decide +kernel
theorem d_Mod_walkFrom_188 : decode b_Mod_walkFrom 188 = .ok (.ifCond .ge 44, 3) := by decide +kernel
theorem d_Mod_walkFrom_191 : decode b_Mod_walkFrom 191 = .ok (.aload_n 0, 1) := by decide +kernel
theorem d_Mod_walkFrom_192 : decode b_Mod_walkFrom 192 = .ok (.getfield 41, 3) := by decide +kernel
theorem d_Mod_walkFrom_195 : decode b_Mod_walkFrom 195 = .ok (.iload 5, 2) := by decide +kernel
theorem d_Mod_walkFrom_197 : decode b_Mod_walkFrom 197 = .ok (.aload_n 0, 1) := by decide +kernel
theorem d_Mod_walkFrom_198 : decode b_Mod_walkFrom 198 = .ok (.getfield 41, 3) := by decide +kernel
theorem d_Mod_walkFrom_201 : decode b_Mod_walkFrom 201 = .ok (.iload_n 3, 1) := by decide +kernel
theorem d_Mod_walkFrom_202 : decode b_Mod_walkFrom 202 = .ok (.iaload, 1) := by decide +kernel
theorem d_Mod_walkFrom_203 : decode b_Mod_walkFrom 203 = .ok (.iconst 1, 1) := by decide +kernel
theorem d_Mod_walkFrom_204 : decode b_Mod_walkFrom 204 = .ok (.iadd, 1) := by decide +kernel
theorem d_Mod_walkFrom_205 : decode b_Mod_walkFrom 205 = .ok (.iastore, 1) := by decide +kernel
theorem d_Mod_walkFrom_206 : decode b_Mod_walkFrom 206 = .ok (.aload_n 0, 1) := by decide +kernel
theorem d_Mod_walkFrom_207 : decode b_Mod_walkFrom 207 = .ok (.getfield 44, 3) := by decide +kernel
theorem d_Mod_walkFrom_210 : decode b_Mod_walkFrom 210 = .ok (.iload 5, 2) := by decide +kernel
theorem d_Mod_walkFrom_212 : decode b_Mod_walkFrom 212 = .ok (.iload_n 3, 1) := by decide +kernel
theorem d_Mod_walkFrom_213 : decode b_Mod_walkFrom 213 = .ok (.iastore, 1) := by decide +kernel
theorem d_Mod_walkFrom_214 : decode b_Mod_walkFrom 214 = .ok (.aload_n 0, 1) := by decide +kernel
theorem d_Mod_walkFrom_215 : decode b_Mod_walkFrom 215 = .ok (.getfield 47, 3) := by decide +kernel
theorem d_Mod_walkFrom_218 : decode b_Mod_walkFrom 218 = .ok (.iload_n 2, 1) := by decide +kernel
theorem d_Mod_walkFrom_219 : decode b_Mod_walkFrom 219 = .ok (.iload 5, 2) := by decide +kernel
theorem d_Mod_walkFrom_221 : decode b_Mod_walkFrom 221 = .ok (.iastore, 1) := by decide +kernel
theorem d_Mod_walkFrom_222 : decode b_Mod_walkFrom 222 = .ok (.aload_n 0, 1) := by decide +kernel
theorem d_Mod_walkFrom_223 : decode b_Mod_walkFrom 223 = .ok (.getfield 50, 3) := by decide +kernel
theorem d_Mod_walkFrom_226 : decode b_Mod_walkFrom 226 = .ok (.iload_n 2, 1) := by decide +kernel
theorem d_Mod_walkFrom_227 : decode b_Mod_walkFrom 227 = .ok (.iconst 0, 1) := by decide +kernel
theorem d_Mod_walkFrom_228 : decode b_Mod_walkFrom 228 = .ok (.iastore, 1) := by decide +kernel
theorem d_Mod_walkFrom_229 : decode b_Mod_walkFrom 229 = .ok (.iinc 2 1, 3) := by decide +kernel
theorem d_Mod_witness_18 : decode b_Mod_witness 18 = .ok (.aload_n 0, 1) := by decide +kernel
theorem d_Mod_witness_19 : decode b_Mod_witness 19 = .ok (.iload_n 1, 1) := by decide +kernel
theorem d_Mod_witness_20 : decode b_Mod_witness 20 = .ok (.invokevirtual 160, 3) := by decide +kernel
theorem d_Mod_witness_23 : decode b_Mod_witness 23 = .ok (.iconst 5, 1) := by decide +kernel
theorem d_Mod_witness_24 : decode b_Mod_witness 24 = .ok (.if_icmp .ne 7, 3) := by decide +kernel
theorem d_Mod_witness_27 : decode b_Mod_witness 27 = .ok (.iconst 5, 1) := by decide +kernel
theorem d_Mod_witness_28 : decode b_Mod_witness 28 = .ok (.goto 5, 3) := by decide +kernel
theorem d_Mod_witness_31 : decode b_Mod_witness 31 = .ok (.bipush 33, 2) := by decide +kernel
theorem d_Mod_wrongNodes_19 : decode b_Mod_wrongNodes 19 = .ok (.aload_n 0, 1) := by decide +kernel
theorem d_Mod_wrongNodes_20 : decode b_Mod_wrongNodes 20 = .ok (.iload_n 2, 1) := by decide +kernel
theorem d_Mod_wrongNodes_21 : decode b_Mod_wrongNodes 21 = .ok (.invokevirtual 200, 3) := by decide +kernel
theorem d_Mod_wrongNodes_24 : decode b_Mod_wrongNodes 24 = .ok (.ifCond .eq 9, 3) := by decide +kernel
theorem d_Mod_wrongNodes_27 : decode b_Mod_wrongNodes 27 = .ok (.iload_n 1, 1) := by decide +kernel
theorem d_Mod_wrongNodes_28 : decode b_Mod_wrongNodes 28 = .ok (.iconst 1, 1) := by decide +kernel
theorem d_Mod_wrongNodes_29 : decode b_Mod_wrongNodes 29 = .ok (.iadd, 1) := by decide +kernel
theorem d_Mod_wrongNodes_30 : decode b_Mod_wrongNodes 30 = .ok (.goto 4, 3) := by decide +kernel
