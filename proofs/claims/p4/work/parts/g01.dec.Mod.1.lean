theorem d_Mod_around_0 : decode b_Mod_around 0 = .ok (.aload_n 0, 1) := by decide +kernel
theorem d_Mod_around_1 : decode b_Mod_around 1 = .ok (.iload_n 1, 1) := by decide +kernel
theorem d_Mod_around_2 : decode b_Mod_around 2 = .ok (.aload_n 0, 1) := by decide +kernel
theorem d_Mod_around_3 : decode b_Mod_around 3 = .ok (.invokevirtual 100, 3) := by decide +kernel
theorem d_Mod_around_6 : decode b_Mod_around 6 = .ok (.iconst (-1), 1) := by decide +kernel
theorem d_Mod_around_7 : decode b_Mod_around 7 = .ok (.ixor, 1) := by decide +kernel
theorem d_Mod_around_8 : decode b_Mod_around 8 = .ok (.iand, 1) := by decide +kernel
theorem d_Mod_around_9 : decode b_Mod_around 9 = .ok (.ifCond .eq 7, 3) := by decide +kernel
theorem d_Mod_around_12 : decode b_Mod_around 12 = .ok (.iconst 1, 1) := by decide +kernel
theorem d_Mod_around_13 : decode b_Mod_around 13 = .ok (.goto 4, 3) := by decide +kernel
theorem d_Mod_around_16 : decode b_Mod_around 16 = .ok (.iconst 0, 1) := by decide +kernel
theorem d_Mod_around_17 : decode b_Mod_around 17 = .ok (.iconst 0, 1) := by decide +kernel
theorem d_Mod_around_18 : decode b_Mod_around 18 = .ok (.iconst 0, 1) := by decide +kernel
theorem d_Mod_around_19 : decode b_Mod_around 19 = .ok (.invokevirtual 79, 3) := by decide +kernel
theorem d_Mod_around_22 : decode b_Mod_around 22 = .ok (.ifCond .eq 5, 3) := by decide +kernel
theorem d_Mod_around_25 : decode b_Mod_around 25 = .ok (.iconst 0, 1) := by decide +kernel
theorem d_Mod_around_26 : decode b_Mod_around 26 = .ok (.ireturn, 1) := by decide +kernel
theorem d_Mod_around_27 : decode b_Mod_around 27 = .ok (.aload_n 0, 1) := by decide +kernel
theorem d_Mod_around_28 : decode b_Mod_around 28 = .ok (.aload_n 0, 1) := by decide +kernel
theorem d_Mod_around_29 : decode b_Mod_around 29 = .ok (.invokevirtual 103, 3) := by decide +kernel
theorem d_Mod_around_32 : decode b_Mod_around 32 = .ok (.invokevirtual 144, 3) := by decide +kernel
theorem d_Mod_around_35 : decode b_Mod_around 35 = .ok (.iconst 0, 1) := by decide +kernel
theorem d_Mod_around_36 : decode b_Mod_around 36 = .ok (.istore_n 2, 1) := by decide +kernel
theorem d_Mod_around_37 : decode b_Mod_around 37 = .ok (.iload_n 2, 1) := by decide +kernel
theorem d_Mod_around_38 : decode b_Mod_around 38 = .ok (.bipush 10, 2) := by decide +kernel
theorem d_Mod_around_40 : decode b_Mod_around 40 = .ok (.if_icmp .ge 25, 3) := by decide +kernel
theorem d_Mod_around_43 : decode b_Mod_around 43 = .ok (.iload_n 1, 1) := by decide +kernel
theorem d_Mod_around_44 : decode b_Mod_around 44 = .ok (.iload_n 2, 1) := by decide +kernel
theorem d_Mod_around_45 : decode b_Mod_around 45 = .ok (.ishr, 1) := by decide +kernel
theorem d_Mod_around_46 : decode b_Mod_around 46 = .ok (.iconst 1, 1) := by decide +kernel
theorem d_Mod_around_47 : decode b_Mod_around 47 = .ok (.iand, 1) := by decide +kernel
theorem d_Mod_around_48 : decode b_Mod_around 48 = .ok (.iconst 1, 1) := by decide +kernel
theorem d_Mod_around_49 : decode b_Mod_around 49 = .ok (.if_icmp .ne 10, 3) := by decide +kernel
theorem d_Mod_around_52 : decode b_Mod_around 52 = .ok (.aload_n 0, 1) := by decide +kernel
theorem d_Mod_around_53 : decode b_Mod_around 53 = .ok (.iload_n 2, 1) := by decide +kernel
theorem d_Mod_around_54 : decode b_Mod_around 54 = .ok (.bipush 10, 2) := by decide +kernel
theorem d_Mod_around_56 : decode b_Mod_around 56 = .ok (.invokevirtual 109, 3) := by decide +kernel
theorem d_Mod_around_59 : decode b_Mod_around 59 = .ok (.iinc 2 1, 3) := by decide +kernel
theorem d_Mod_around_62 : decode b_Mod_around 62 = .ok (.goto (-25), 3) := by decide +kernel
theorem d_Mod_around_65 : decode b_Mod_around 65 = .ok (.aload_n 0, 1) := by decide +kernel
theorem d_Mod_around_66 : decode b_Mod_around 66 = .ok (.invokevirtual 147, 3) := by decide +kernel
theorem d_Mod_around_69 : decode b_Mod_around 69 = .ok (.ireturn, 1) := by decide +kernel
theorem d_Mod_at_0 : decode b_Mod_at 0 = .ok (.aload_n 0, 1) := by decide +kernel
theorem d_Mod_at_1 : decode b_Mod_at 1 = .ok (.iload_n 1, 1) := by decide +kernel
theorem d_Mod_at_2 : decode b_Mod_at 2 = .ok (.invokestatic 72, 3) := by decide +kernel
theorem d_Mod_at_5 : decode b_Mod_at 5 = .ok (.ifCond .eq 12, 3) := by decide +kernel
theorem d_Mod_at_8 : decode b_Mod_at 8 = .ok (.iload_n 2, 1) := by decide +kernel
theorem d_Mod_at_9 : decode b_Mod_at 9 = .ok (.ifCond .lt 8, 3) := by decide +kernel
theorem d_Mod_at_12 : decode b_Mod_at 12 = .ok (.iload_n 2, 1) := by decide +kernel
theorem d_Mod_at_13 : decode b_Mod_at 13 = .ok (.iconst 1, 1) := by decide +kernel
theorem d_Mod_at_14 : decode b_Mod_at 14 = .ok (.if_icmp .le 7, 3) := by decide +kernel
theorem d_Mod_at_17 : decode b_Mod_at 17 = .ok (.iconst 1, 1) := by decide +kernel
theorem d_Mod_at_18 : decode b_Mod_at 18 = .ok (.goto 4, 3) := by decide +kernel
theorem d_Mod_at_21 : decode b_Mod_at 21 = .ok (.iconst 0, 1) := by decide +kernel
theorem d_Mod_at_22 : decode b_Mod_at 22 = .ok (.iconst 0, 1) := by decide +kernel
theorem d_Mod_at_23 : decode b_Mod_at 23 = .ok (.iconst 0, 1) := by decide +kernel
theorem d_Mod_at_24 : decode b_Mod_at 24 = .ok (.invokevirtual 79, 3) := by decide +kernel
theorem d_Mod_at_27 : decode b_Mod_at 27 = .ok (.ifCond .eq 5, 3) := by decide +kernel
theorem d_Mod_at_30 : decode b_Mod_at 30 = .ok (.iconst 0, 1) := by decide +kernel
theorem d_Mod_at_31 : decode b_Mod_at 31 = .ok (.ireturn, 1) := by decide +kernel
theorem d_Mod_at_32 : decode b_Mod_at 32 = .ok (.iload_n 2, 1) := by decide +kernel
theorem d_Mod_at_33 : decode b_Mod_at 33 = .ok (.ifCond .ne 12, 3) := by decide +kernel
theorem d_Mod_at_36 : decode b_Mod_at 36 = .ok (.aload_n 0, 1) := by decide +kernel
theorem d_Mod_at_37 : decode b_Mod_at 37 = .ok (.getfield 20, 3) := by decide +kernel
theorem d_Mod_at_40 : decode b_Mod_at 40 = .ok (.iload_n 1, 1) := by decide +kernel
theorem d_Mod_at_41 : decode b_Mod_at 41 = .ok (.iaload, 1) := by decide +kernel
theorem d_Mod_at_42 : decode b_Mod_at 42 = .ok (.goto 9, 3) := by decide +kernel
theorem d_Mod_at_45 : decode b_Mod_at 45 = .ok (.aload_n 0, 1) := by decide +kernel
theorem d_Mod_at_46 : decode b_Mod_at 46 = .ok (.getfield 23, 3) := by decide +kernel
theorem d_Mod_at_49 : decode b_Mod_at 49 = .ok (.iload_n 1, 1) := by decide +kernel
theorem d_Mod_at_50 : decode b_Mod_at 50 = .ok (.iaload, 1) := by decide +kernel
theorem d_Mod_at_51 : decode b_Mod_at 51 = .ok (.ireturn, 1) := by decide +kernel
theorem d_Mod_box_0 : decode b_Mod_box 0 = .ok (.aload_n 0, 1) := by decide +kernel
theorem d_Mod_box_1 : decode b_Mod_box 1 = .ok (.iconst 0, 1) := by decide +kernel
theorem d_Mod_box_2 : decode b_Mod_box 2 = .ok (.putfield 68, 3) := by decide +kernel
theorem d_Mod_box_5 : decode b_Mod_box 5 = .ok (.bipush 31, 2) := by decide +kernel
theorem d_Mod_box_7 : decode b_Mod_box 7 = .ok (.istore_n 1, 1) := by decide +kernel
theorem d_Mod_box_8 : decode b_Mod_box 8 = .ok (.iconst (-1), 1) := by decide +kernel
theorem d_Mod_box_9 : decode b_Mod_box 9 = .ok (.istore_n 2, 1) := by decide +kernel
theorem d_Mod_box_10 : decode b_Mod_box 10 = .ok (.bipush 31, 2) := by decide +kernel
theorem d_Mod_box_12 : decode b_Mod_box 12 = .ok (.istore_n 3, 1) := by decide +kernel
theorem d_Mod_box_13 : decode b_Mod_box 13 = .ok (.iconst (-1), 1) := by decide +kernel
theorem d_Mod_box_14 : decode b_Mod_box 14 = .ok (.istore 4, 2) := by decide +kernel
theorem d_Mod_box_16 : decode b_Mod_box 16 = .ok (.iconst 0, 1) := by decide +kernel
theorem d_Mod_box_17 : decode b_Mod_box 17 = .ok (.istore 5, 2) := by decide +kernel
theorem d_Mod_box_19 : decode b_Mod_box 19 = .ok (.iload 5, 2) := by decide +kernel
theorem d_Mod_box_21 : decode b_Mod_box 21 = .ok (.bipush 10, 2) := by decide +kernel
theorem d_Mod_box_23 : decode b_Mod_box 23 = .ok (.if_icmp .ge 144, 3) := by decide +kernel
theorem d_Mod_box_26 : decode b_Mod_box 26 = .ok (.aload_n 0, 1) := by decide +kernel
theorem d_Mod_box_27 : decode b_Mod_box 27 = .ok (.getfield 7, 3) := by decide +kernel
theorem d_Mod_box_30 : decode b_Mod_box 30 = .ok (.iload 5, 2) := by decide +kernel
theorem d_Mod_box_32 : decode b_Mod_box 32 = .ok (.baload, 1) := by decide +kernel
theorem d_Mod_box_33 : decode b_Mod_box 33 = .ok (.ifCond .eq 24, 3) := by decide +kernel
theorem d_Mod_box_36 : decode b_Mod_box 36 = .ok (.aload_n 0, 1) := by decide +kernel
theorem d_Mod_box_37 : decode b_Mod_box 37 = .ok (.getfield 20, 3) := by decide +kernel
theorem d_Mod_box_40 : decode b_Mod_box 40 = .ok (.iload 5, 2) := by decide +kernel
theorem d_Mod_box_42 : decode b_Mod_box 42 = .ok (.iaload, 1) := by decide +kernel
theorem d_Mod_box_43 : decode b_Mod_box 43 = .ok (.iload_n 1, 1) := by decide +kernel
theorem d_Mod_box_44 : decode b_Mod_box 44 = .ok (.if_icmp .ge 13, 3) := by decide +kernel
theorem d_Mod_box_47 : decode b_Mod_box 47 = .ok (.aload_n 0, 1) := by decide +kernel
theorem d_Mod_box_48 : decode b_Mod_box 48 = .ok (.getfield 20, 3) := by decide +kernel
theorem d_Mod_box_51 : decode b_Mod_box 51 = .ok (.iload 5, 2) := by decide +kernel
theorem d_Mod_box_53 : decode b_Mod_box 53 = .ok (.iaload, 1) := by decide +kernel
theorem d_Mod_box_54 : decode b_Mod_box 54 = .ok (.goto 4, 3) := by decide +kernel
theorem d_Mod_box_57 : decode b_Mod_box 57 = .ok (.iload_n 1, 1) := by decide +kernel
theorem d_Mod_box_58 : decode b_Mod_box 58 = .ok (.istore_n 1, 1) := by decide +kernel
theorem d_Mod_box_59 : decode b_Mod_box 59 = .ok (.aload_n 0, 1) := by decide +kernel
theorem d_Mod_box_60 : decode b_Mod_box 60 = .ok (.getfield 7, 3) := by decide +kernel
theorem d_Mod_box_63 : decode b_Mod_box 63 = .ok (.iload 5, 2) := by decide +kernel
theorem d_Mod_box_65 : decode b_Mod_box 65 = .ok (.baload, 1) := by decide +kernel
theorem d_Mod_box_66 : decode b_Mod_box 66 = .ok (.ifCond .eq 24, 3) := by decide +kernel
theorem d_Mod_box_69 : decode b_Mod_box 69 = .ok (.aload_n 0, 1) := by decide +kernel
theorem d_Mod_box_70 : decode b_Mod_box 70 = .ok (.getfield 20, 3) := by decide +kernel
theorem d_Mod_box_73 : decode b_Mod_box 73 = .ok (.iload 5, 2) := by decide +kernel
theorem d_Mod_box_75 : decode b_Mod_box 75 = .ok (.iaload, 1) := by decide +kernel
theorem d_Mod_box_76 : decode b_Mod_box 76 = .ok (.iload_n 2, 1) := by decide +kernel
theorem d_Mod_box_77 : decode b_Mod_box 77 = .ok (.if_icmp .le 13, 3) := by decide +kernel
theorem d_Mod_box_80 : decode b_Mod_box 80 = .ok (.aload_n 0, 1) := by decide +kernel
theorem d_Mod_box_81 : decode b_Mod_box 81 = .ok (.getfield 20, 3) := by decide +kernel
theorem d_Mod_box_84 : decode b_Mod_box 84 = .ok (.iload 5, 2) := by decide +kernel
theorem d_Mod_box_86 : decode b_Mod_box 86 = .ok (.iaload, 1) := by decide +kernel
theorem d_Mod_box_87 : decode b_Mod_box 87 = .ok (.goto 4, 3) := by decide +kernel
theorem d_Mod_box_90 : decode b_Mod_box 90 = .ok (.iload_n 2, 1) := by decide +kernel
theorem d_Mod_box_91 : decode b_Mod_box 91 = .ok (.istore_n 2, 1) := by decide +kernel
theorem d_Mod_box_92 : decode b_Mod_box 92 = .ok (.aload_n 0, 1) := by decide +kernel
theorem d_Mod_box_93 : decode b_Mod_box 93 = .ok (.getfield 7, 3) := by decide +kernel
theorem d_Mod_box_96 : decode b_Mod_box 96 = .ok (.iload 5, 2) := by decide +kernel
theorem d_Mod_box_98 : decode b_Mod_box 98 = .ok (.baload, 1) := by decide +kernel
theorem d_Mod_box_99 : decode b_Mod_box 99 = .ok (.ifCond .eq 24, 3) := by decide +kernel
theorem d_Mod_box_102 : decode b_Mod_box 102 = .ok (.aload_n 0, 1) := by decide +kernel
theorem d_Mod_box_103 : decode b_Mod_box 103 = .ok (.getfield 23, 3) := by decide +kernel
theorem d_Mod_box_106 : decode b_Mod_box 106 = .ok (.iload 5, 2) := by decide +kernel
theorem d_Mod_box_108 : decode b_Mod_box 108 = .ok (.iaload, 1) := by decide +kernel
theorem d_Mod_box_109 : decode b_Mod_box 109 = .ok (.iload_n 3, 1) := by decide +kernel
theorem d_Mod_box_110 : decode b_Mod_box 110 = .ok (.if_icmp .ge 13, 3) := by decide +kernel
theorem d_Mod_box_113 : decode b_Mod_box 113 = .ok (.aload_n 0, 1) := by decide +kernel
theorem d_Mod_box_114 : decode b_Mod_box 114 = .ok (.getfield 23, 3) := by decide +kernel
theorem d_Mod_box_117 : decode b_Mod_box 117 = .ok (.iload 5, 2) := by decide +kernel
theorem d_Mod_box_119 : decode b_Mod_box 119 = .ok (.iaload, 1) := by decide +kernel
theorem d_Mod_box_120 : decode b_Mod_box 120 = .ok (.goto 4, 3) := by decide +kernel
theorem d_Mod_box_123 : decode b_Mod_box 123 = .ok (.iload_n 3, 1) := by decide +kernel
theorem d_Mod_box_124 : decode b_Mod_box 124 = .ok (.istore_n 3, 1) := by decide +kernel
theorem d_Mod_box_125 : decode b_Mod_box 125 = .ok (.aload_n 0, 1) := by decide +kernel
theorem d_Mod_box_126 : decode b_Mod_box 126 = .ok (.getfield 7, 3) := by decide +kernel
theorem d_Mod_box_129 : decode b_Mod_box 129 = .ok (.iload 5, 2) := by decide +kernel
theorem d_Mod_box_131 : decode b_Mod_box 131 = .ok (.baload, 1) := by decide +kernel
theorem d_Mod_box_132 : decode b_Mod_box 132 = .ok (.ifCond .eq 25, 3) := by decide +kernel
theorem d_Mod_box_135 : decode b_Mod_box 135 = .ok (.aload_n 0, 1) := by decide +kernel
theorem d_Mod_box_136 : decode b_Mod_box 136 = .ok (.getfield 23, 3) := by decide +kernel
theorem d_Mod_box_139 : decode b_Mod_box 139 = .ok (.iload 5, 2) := by decide +kernel
theorem d_Mod_box_141 : decode b_Mod_box 141 = .ok (.iaload, 1) := by decide +kernel
theorem d_Mod_box_142 : decode b_Mod_box 142 = .ok (.iload 4, 2) := by decide +kernel
theorem d_Mod_box_144 : decode b_Mod_box 144 = .ok (.if_icmp .le 13, 3) := by decide +kernel
theorem d_Mod_box_147 : decode b_Mod_box 147 = .ok (.aload_n 0, 1) := by decide +kernel
theorem d_Mod_box_148 : decode b_Mod_box 148 = .ok (.getfield 23, 3) := by decide +kernel
theorem d_Mod_box_151 : decode b_Mod_box 151 = .ok (.iload 5, 2) := by decide +kernel
theorem d_Mod_box_153 : decode b_Mod_box 153 = .ok (.iaload, 1) := by decide +kernel
theorem d_Mod_box_154 : decode b_Mod_box 154 = .ok (.goto 5, 3) := by decide +kernel
theorem d_Mod_box_157 : decode b_Mod_box 157 = .ok (.iload 4, 2) := by decide +kernel
theorem d_Mod_box_159 : decode b_Mod_box 159 = .ok (.istore 4, 2) := by decide +kernel
theorem d_Mod_box_161 : decode b_Mod_box 161 = .ok (.iinc 5 1, 3) := by decide +kernel
theorem d_Mod_box_164 : decode b_Mod_box 164 = .ok (.goto (-145), 3) := by decide +kernel
theorem d_Mod_box_167 : decode b_Mod_box 167 = .ok (.iload_n 2, 1) := by decide +kernel
theorem d_Mod_box_168 : decode b_Mod_box 168 = .ok (.ifCond .ge 7, 3) := by decide +kernel
theorem d_Mod_box_171 : decode b_Mod_box 171 = .ok (.iconst 0, 1) := by decide +kernel
theorem d_Mod_box_172 : decode b_Mod_box 172 = .ok (.goto 15, 3) := by decide +kernel
theorem d_Mod_box_175 : decode b_Mod_box 175 = .ok (.iconst 2, 1) := by decide +kernel
theorem d_Mod_box_176 : decode b_Mod_box 176 = .ok (.iload_n 2, 1) := by decide +kernel
theorem d_Mod_box_177 : decode b_Mod_box 177 = .ok (.iload_n 1, 1) := by decide +kernel
theorem d_Mod_box_178 : decode b_Mod_box 178 = .ok (.isub, 1) := by decide +kernel
theorem d_Mod_box_179 : decode b_Mod_box 179 = .ok (.imul, 1) := by decide +kernel
theorem d_Mod_box_180 : decode b_Mod_box 180 = .ok (.iload 4, 2) := by decide +kernel
theorem d_Mod_box_182 : decode b_Mod_box 182 = .ok (.iload_n 3, 1) := by decide +kernel
theorem d_Mod_box_183 : decode b_Mod_box 183 = .ok (.isub, 1) := by decide +kernel
theorem d_Mod_box_184 : decode b_Mod_box 184 = .ok (.imul, 1) := by decide +kernel
theorem d_Mod_box_185 : decode b_Mod_box 185 = .ok (.iconst 1, 1) := by decide +kernel
theorem d_Mod_box_186 : decode b_Mod_box 186 = .ok (.iadd, 1) := by decide +kernel
theorem d_Mod_box_187 : decode b_Mod_box 187 = .ok (.ireturn, 1) := by decide +kernel
theorem d_Mod_bridge_0 : decode b_Mod_bridge 0 = .ok (.aload_n 0, 1) := by decide +kernel
theorem d_Mod_bridge_1 : decode b_Mod_bridge 1 = .ok (.aload_n 0, 1) := by decide +kernel
theorem d_Mod_bridge_2 : decode b_Mod_bridge 2 = .ok (.iload_n 1, 1) := by decide +kernel
theorem d_Mod_bridge_3 : decode b_Mod_bridge 3 = .ok (.invokevirtual 94, 3) := by decide +kernel
theorem d_Mod_bridge_6 : decode b_Mod_bridge 6 = .ok (.ifCond .ne 7, 3) := by decide +kernel
theorem d_Mod_bridge_9 : decode b_Mod_bridge 9 = .ok (.iconst 1, 1) := by decide +kernel
theorem d_Mod_bridge_10 : decode b_Mod_bridge 10 = .ok (.goto 4, 3) := by decide +kernel
theorem d_Mod_bridge_13 : decode b_Mod_bridge 13 = .ok (.iconst 0, 1) := by decide +kernel
theorem d_Mod_bridge_14 : decode b_Mod_bridge 14 = .ok (.iconst 0, 1) := by decide +kernel
theorem d_Mod_bridge_15 : decode b_Mod_bridge 15 = .ok (.iconst 0, 1) := by decide +kernel
theorem d_Mod_bridge_16 : decode b_Mod_bridge 16 = .ok (.invokevirtual 79, 3) := by decide +kernel
theorem d_Mod_bridge_19 : decode b_Mod_bridge 19 = .ok (.ifCond .ne 22, 3) := by decide +kernel
theorem d_Mod_bridge_22 : decode b_Mod_bridge 22 = .ok (.aload_n 0, 1) := by decide +kernel
theorem d_Mod_bridge_23 : decode b_Mod_bridge 23 = .ok (.iconst (-1), 1) := by decide +kernel
theorem d_Mod_bridge_24 : decode b_Mod_bridge 24 = .ok (.iload_n 1, 1) := by decide +kernel
theorem d_Mod_bridge_25 : decode b_Mod_bridge 25 = .ok (.invokevirtual 170, 3) := by decide +kernel
theorem d_Mod_bridge_28 : decode b_Mod_bridge 28 = .ok (.aload_n 0, 1) := by decide +kernel
theorem d_Mod_bridge_29 : decode b_Mod_bridge 29 = .ok (.iconst (-1), 1) := by decide +kernel
theorem d_Mod_bridge_30 : decode b_Mod_bridge 30 = .ok (.iconst (-1), 1) := by decide +kernel
theorem d_Mod_bridge_31 : decode b_Mod_bridge 31 = .ok (.invokevirtual 170, 3) := by decide +kernel
theorem d_Mod_bridge_34 : decode b_Mod_bridge 34 = .ok (.if_icmp .le 7, 3) := by decide +kernel
theorem d_Mod_bridge_37 : decode b_Mod_bridge 37 = .ok (.iconst 1, 1) := by decide +kernel
theorem d_Mod_bridge_38 : decode b_Mod_bridge 38 = .ok (.goto 4, 3) := by decide +kernel
theorem d_Mod_bridge_41 : decode b_Mod_bridge 41 = .ok (.iconst 0, 1) := by decide +kernel
theorem d_Mod_bridge_42 : decode b_Mod_bridge 42 = .ok (.ireturn, 1) := by decide +kernel
theorem d_Mod_canColour_0 : decode b_Mod_canColour 0 = .ok (.iconst 0, 1) := by decide +kernel
theorem d_Mod_canColour_1 : decode b_Mod_canColour 1 = .ok (.istore_n 2, 1) := by decide +kernel
theorem d_Mod_canColour_2 : decode b_Mod_canColour 2 = .ok (.iconst 0, 1) := by decide +kernel
theorem d_Mod_canColour_3 : decode b_Mod_canColour 3 = .ok (.istore_n 3, 1) := by decide +kernel
theorem d_Mod_canColour_4 : decode b_Mod_canColour 4 = .ok (.iload_n 3, 1) := by decide +kernel
theorem d_Mod_canColour_5 : decode b_Mod_canColour 5 = .ok (.bipush 10, 2) := by decide +kernel
theorem d_Mod_canColour_7 : decode b_Mod_canColour 7 = .ok (.if_icmp .ge 40, 3) := by decide +kernel
theorem d_Mod_canColour_10 : decode b_Mod_canColour 10 = .ok (.aload_n 0, 1) := by decide +kernel
theorem d_Mod_canColour_11 : decode b_Mod_canColour 11 = .ok (.getfield 62, 3) := by decide +kernel
theorem d_Mod_canColour_14 : decode b_Mod_canColour 14 = .ok (.iload_n 3, 1) := by decide +kernel
theorem d_Mod_canColour_15 : decode b_Mod_canColour 15 = .ok (.iconst (-1), 1) := by decide +kernel
theorem d_Mod_canColour_16 : decode b_Mod_canColour 16 = .ok (.iastore, 1) := by decide +kernel
theorem d_Mod_canColour_17 : decode b_Mod_canColour 17 = .ok (.aload_n 0, 1) := by decide +kernel
theorem d_Mod_canColour_18 : decode b_Mod_canColour 18 = .ok (.getfield 65, 3) := by decide +kernel
theorem d_Mod_canColour_21 : decode b_Mod_canColour 21 = .ok (.iload_n 2, 1) := by decide +kernel
theorem d_Mod_canColour_22 : decode b_Mod_canColour 22 = .ok (.iload_n 3, 1) := by decide +kernel
theorem d_Mod_canColour_23 : decode b_Mod_canColour 23 = .ok (.iastore, 1) := by decide +kernel
theorem d_Mod_canColour_24 : decode b_Mod_canColour 24 = .ok (.aload_n 0, 1) := by decide +kernel
theorem d_Mod_canColour_25 : decode b_Mod_canColour 25 = .ok (.getfield 7, 3) := by decide +kernel
theorem d_Mod_canColour_28 : decode b_Mod_canColour 28 = .ok (.iload_n 3, 1) := by decide +kernel
theorem d_Mod_canColour_29 : decode b_Mod_canColour 29 = .ok (.baload, 1) := by decide +kernel
theorem d_Mod_canColour_30 : decode b_Mod_canColour 30 = .ok (.ifCond .eq 9, 3) := by decide +kernel
theorem d_Mod_canColour_33 : decode b_Mod_canColour 33 = .ok (.iload_n 2, 1) := by decide +kernel
theorem d_Mod_canColour_34 : decode b_Mod_canColour 34 = .ok (.iconst 1, 1) := by decide +kernel
theorem d_Mod_canColour_35 : decode b_Mod_canColour 35 = .ok (.iadd, 1) := by decide +kernel
theorem d_Mod_canColour_36 : decode b_Mod_canColour 36 = .ok (.goto 4, 3) := by decide +kernel
theorem d_Mod_canColour_39 : decode b_Mod_canColour 39 = .ok (.iload_n 2, 1) := by decide +kernel
theorem d_Mod_canColour_40 : decode b_Mod_canColour 40 = .ok (.istore_n 2, 1) := by decide +kernel
theorem d_Mod_canColour_41 : decode b_Mod_canColour 41 = .ok (.iinc 3 1, 3) := by decide +kernel
theorem d_Mod_canColour_44 : decode b_Mod_canColour 44 = .ok (.goto (-40), 3) := by decide +kernel
theorem d_Mod_canColour_47 : decode b_Mod_canColour 47 = .ok (.iconst 0, 1) := by decide +kernel
theorem d_Mod_canColour_48 : decode b_Mod_canColour 48 = .ok (.istore_n 3, 1) := by decide +kernel
theorem d_Mod_canColour_49 : decode b_Mod_canColour 49 = .ok (.iload_n 3, 1) := by decide +kernel
theorem d_Mod_canColour_50 : decode b_Mod_canColour 50 = .ok (.ifCond .lt 92, 3) := by decide +kernel
theorem d_Mod_canColour_53 : decode b_Mod_canColour 53 = .ok (.iload_n 3, 1) := by decide +kernel
theorem d_Mod_canColour_54 : decode b_Mod_canColour 54 = .ok (.iload_n 2, 1) := by decide +kernel
theorem d_Mod_canColour_55 : decode b_Mod_canColour 55 = .ok (.if_icmp .ge 87, 3) := by decide +kernel
theorem d_Mod_canColour_58 : decode b_Mod_canColour 58 = .ok (.aload_n 0, 1) := by decide +kernel
theorem d_Mod_canColour_59 : decode b_Mod_canColour 59 = .ok (.getfield 65, 3) := by decide +kernel
theorem d_Mod_canColour_62 : decode b_Mod_canColour 62 = .ok (.iload_n 3, 1) := by decide +kernel
theorem d_Mod_canColour_63 : decode b_Mod_canColour 63 = .ok (.iaload, 1) := by decide +kernel
theorem d_Mod_canColour_64 : decode b_Mod_canColour 64 = .ok (.istore 4, 2) := by decide +kernel
theorem d_Mod_canColour_66 : decode b_Mod_canColour 66 = .ok (.aload_n 0, 1) := by decide +kernel
theorem d_Mod_canColour_67 : decode b_Mod_canColour 67 = .ok (.getfield 62, 3) := by decide +kernel
theorem d_Mod_canColour_70 : decode b_Mod_canColour 70 = .ok (.iload 4, 2) := by decide +kernel
theorem d_Mod_canColour_72 : decode b_Mod_canColour 72 = .ok (.dup2, 1) := by decide +kernel
theorem d_Mod_canColour_73 : decode b_Mod_canColour 73 = .ok (.iaload, 1) := by decide +kernel
