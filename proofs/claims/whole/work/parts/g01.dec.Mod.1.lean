theorem d_Mod_around_52 : decode b_Mod_around 52 = .ok (.aload_n 0, 1) := by decide +kernel
theorem d_Mod_around_53 : decode b_Mod_around 53 = .ok (.iload_n 2, 1) := by decide +kernel
theorem d_Mod_around_54 : decode b_Mod_around 54 = .ok (.bipush 10, 2) := by decide +kernel
theorem d_Mod_around_56 : decode b_Mod_around 56 = .ok (.invokevirtual 109, 3) := by decide +kernel
theorem d_Mod_box_36 : decode b_Mod_box 36 = .ok (.aload_n 0, 1) := by decide +kernel
theorem d_Mod_box_37 : decode b_Mod_box 37 = .ok (.getfield 20, 3) := by decide +kernel
theorem d_Mod_box_40 : decode b_Mod_box 40 = .ok (.iload 5, 2) := by decide +kernel
theorem d_Mod_box_42 : decode b_Mod_box 42 = .ok (.iaload, 1) := by decide +kernel
theorem d_Mod_box_43 : decode b_Mod_box 43 = .ok (.iload_n 1, 1) := by decide +kernel
theorem d_Mod_box_44 : decode b_Mod_box 44 = .ok (.if_icmp .ge 13, 3) := by decide +kernel
theorem d_Mod_box_47 : decode b_Mod_box 47 = .ok (.aload_n 0, 1) := by decide +kernel
theorem d_Mod_box_48 : decode b_Mod_box 48 = .ok (.getfield 20, 3) := by decide +kernel
theorem d_Mod_box_51 : decode b_Mod_box 51 = .ok (.iload 5, 2) := by decide +kernel
theorem d_Mod_box_53 : decode b_Mod_box 53 = .ok (.iaload, 1) := by decide +kernel
theorem d_Mod_box_54 : decode b_Mod_box 54 = .ok (.goto 4, 3) := by decide +kernel
theorem d_Mod_box_69 : decode b_Mod_box 69 = .ok (.aload_n 0, 1) := by decide +kernel
theorem d_Mod_box_70 : decode b_Mod_box 70 = .ok (.getfield 20, 3) := by decide +kernel
theorem d_Mod_box_73 : decode b_Mod_box 73 = .ok (.iload 5, 2) := by decide +kernel
theorem d_Mod_box_75 : decode b_Mod_box 75 = .ok (.iaload, 1) := by decide +kernel
theorem d_Mod_box_76 : decode b_Mod_box 76 = .ok (.iload_n 2, 1) := by decide +kernel
theorem d_Mod_box_77 : decode b_Mod_box 77 = .ok (.if_icmp .le 13, 3) := by decide +kernel
theorem d_Mod_box_80 : decode b_Mod_box 80 = .ok (.aload_n 0, 1) := by decide +kernel
theorem d_Mod_box_81 : decode b_Mod_box 81 = .ok (.getfield 20, 3) := by decide +kernel
theorem d_Mod_box_84 : decode b_Mod_box 84 = .ok (.iload 5, 2) := by decide +kernel
theorem d_Mod_box_86 : decode b_Mod_box 86 = .ok (.iaload, 1) := by decide +kernel
theorem d_Mod_box_87 : decode b_Mod_box 87 = .ok (.goto 4, 3) := by decide +kernel
theorem d_Mod_box_102 : decode b_Mod_box 102 = .ok (.aload_n 0, 1) := by decide +kernel
theorem d_Mod_box_103 : decode b_Mod_box 103 = .ok (.getfield 23, 3) := by decide +kernel
theorem d_Mod_box_106 : decode b_Mod_box 106 = .ok (.iload 5, 2) := by decide +kernel
theorem d_Mod_box_108 : decode b_Mod_box 108 = .ok (.iaload, 1) := by decide +kernel
theorem d_Mod_box_109 : decode b_Mod_box 109 = .ok (.iload_n 3, 1) := by decide +kernel
theorem d_Mod_box_110 : decode b_Mod_box 110 = .ok (.if_icmp .ge 13, 3) := by decide +kernel
theorem d_Mod_box_113 : decode b_Mod_box 113 = .ok (.aload_n 0, 1) := by decide +kernel
theorem d_Mod_box_114 : decode b_Mod_box 114 = .ok (.getfield 23, 3) := by decide +kernel
theorem d_Mod_box_117 : decode b_Mod_box 117 = .ok (.iload 5, 2) := by decide +kernel
theorem d_Mod_box_119 : decode b_Mod_box 119 = .ok (.iaload, 1) := by decide +kernel
theorem d_Mod_box_120 : decode b_Mod_box 120 = .ok (.goto 4, 3) := by decide +kernel
theorem d_Mod_box_135 : decode b_Mod_box 135 = .ok (.aload_n 0, 1) := by decide +kernel
theorem d_Mod_box_136 : decode b_Mod_box 136 = .ok (.getfield 23, 3) := by decide +kernel
theorem d_Mod_box_139 : decode b_Mod_box 139 = .ok (.iload 5, 2) := by decide +kernel
theorem d_Mod_box_141 : decode b_Mod_box 141 = .ok (.iaload, 1) := by decide +kernel
theorem d_Mod_box_142 : decode b_Mod_box 142 = .ok (.iload 4, 2) := by decide +kernel
theorem d_Mod_box_144 : decode b_Mod_box 144 = .ok (.if_icmp .le 13, 3) := by decide +kernel
theorem d_Mod_box_147 : decode b_Mod_box 147 = .ok (.aload_n 0, 1) := by decide +kernel
theorem d_Mod_box_148 : decode b_Mod_box 148 = .ok (.getfield 23, 3) := by decide +kernel
theorem d_Mod_box_151 : decode b_Mod_box 151 = .ok (.iload 5, 2) := by decide +kernel
theorem d_Mod_box_153 : decode b_Mod_box 153 = .ok (.iaload, 1) := by decide +kernel
theorem d_Mod_box_154 : decode b_Mod_box 154 = .ok (.goto 5, 3) := by decide +kernel
theorem d_Mod_box_175 : decode b_Mod_box 175 = .ok (.iconst 2, 1) := by decide +kernel
theorem d_Mod_box_176 : decode b_Mod_box 176 = .ok (.iload_n 2, 1) := by decide +kernel
theorem d_Mod_box_177 : decode b_Mod_box 177 = .ok (.iload_n 1, 1) := by decide +kernel
theorem d_Mod_box_178 : decode b_Mod_box 178 = .ok (.isub, 1) := by decide +kernel
theorem d_Mod_box_179 : decode b_Mod_box 179 = .ok (.imul, 1) := by decide +kernel
theorem d_Mod_box_180 : decode b_Mod_box 180 = .ok (.iload 4, 2) := by decide +kernel
theorem d_Mod_box_182 : decode b_Mod_box 182 = .ok (.iload_n 3, 1) := by decide +kernel
theorem d_Mod_box_183 : decode b_Mod_box 183 = .ok (.isub, 1) := by decide +kernel
theorem d_Mod_box_184 : decode b_Mod_box 184 = .ok (.imul, 1) := by decide +kernel
theorem d_Mod_box_185 : decode b_Mod_box 185 = .ok (.iconst 1, 1) := by decide +kernel
theorem d_Mod_box_186 : decode b_Mod_box 186 = .ok (.iadd, 1) := by decide +kernel
theorem d_Mod_bridge_13 : decode b_Mod_bridge 13 = .ok (.iconst 0, 1) := by decide +kernel
theorem d_Mod_bridge_22 : decode b_Mod_bridge 22 = .ok (.aload_n 0, 1) := by decide +kernel
theorem d_Mod_bridge_23 : decode b_Mod_bridge 23 = .ok (.iconst (-1), 1) := by decide +kernel
theorem d_Mod_bridge_24 : decode b_Mod_bridge 24 = .ok (.iload_n 1, 1) := by decide +kernel
theorem d_Mod_bridge_25 : decode b_Mod_bridge 25 = .ok (.invokevirtual 170, 3) := by decide +kernel
theorem d_Mod_bridge_28 : decode b_Mod_bridge 28 = .ok (.aload_n 0, 1) := by decide +kernel
theorem d_Mod_bridge_29 : decode b_Mod_bridge 29 = .ok (.iconst (-1), 1) := by decide +kernel
theorem d_Mod_bridge_30 : decode b_Mod_bridge 30 = .ok (.iconst (-1), 1) := by decide +kernel
theorem d_Mod_bridge_31 : decode b_Mod_bridge 31 = .ok (.invokevirtual 170, 3) := by decide +kernel
theorem d_Mod_bridge_34 : decode b_Mod_bridge 34 = .ok (.if_icmp .le 7, 3) := by decide +kernel
theorem d_Mod_bridge_37 : decode b_Mod_bridge 37 = .ok (.iconst 1, 1) := by decide +kernel
theorem d_Mod_bridge_38 : decode b_Mod_bridge 38 = .ok (.goto 4, 3) := by decide +kernel
theorem d_Mod_canColour_33 : decode b_Mod_canColour 33 = .ok (.iload_n 2, 1) := by decide +kernel
theorem d_Mod_canColour_34 : decode b_Mod_canColour 34 = .ok (.iconst 1, 1) := by decide +kernel
theorem d_Mod_canColour_35 : decode b_Mod_canColour 35 = .ok (.iadd, 1) := by decide +kernel
theorem d_Mod_canColour_36 : decode b_Mod_canColour 36 = .ok (.goto 4, 3) := by decide +kernel
theorem d_Mod_canColour_58 : decode b_Mod_canColour 58 = .ok (.aload_n 0, 1) := by decide +kernel
theorem d_Mod_canColour_59 : decode b_Mod_canColour 59 = .ok (.getfield 65, 3) := by decide +kernel
theorem d_Mod_canColour_62 : decode b_Mod_canColour 62 = .ok (.iload_n 3, 1) := by decide +kernel
theorem d_Mod_canColour_63 : decode b_Mod_canColour 63 = .ok (.iaload, 1) := by decide +kernel
theorem d_Mod_canColour_64 : decode b_Mod_canColour 64 = .ok (.istore 4, 2) := by decide +kernel
theorem d_Mod_canColour_66 : decode b_Mod_canColour 66 = .ok (.aload_n 0, 1) := by decide +kernel
theorem d_Mod_canColour_67 : decode b_Mod_canColour 67 = .ok (.getfield 62, 3) := by decide +kernel
theorem d_Mod_canColour_70 : decode b_Mod_canColour 70 = .ok (.iload 4, 2) := by decide +kernel
theorem d_Mod_canColour_72 : decode b_Mod_canColour 72 = .ok (.dup2, 1) := by decide +kernel
theorem d_Mod_canColour_73 : decode b_Mod_canColour 73 = .ok (.iaload, 1) := by decide +kernel
theorem d_Mod_canColour_74 : decode b_Mod_canColour 74 = .ok (.iconst 1, 1) := by decide +kernel
theorem d_Mod_canColour_75 : decode b_Mod_canColour 75 = .ok (.iadd, 1) := by decide +kernel
theorem d_Mod_canColour_76 : decode b_Mod_canColour 76 = .ok (.iastore, 1) := by decide +kernel
theorem d_Mod_canColour_77 : decode b_Mod_canColour 77 = .ok (.aload_n 0, 1) := by decide +kernel
theorem d_Mod_canColour_78 : decode b_Mod_canColour 78 = .ok (.getfield 62, 3) := by decide +kernel
theorem d_Mod_canColour_81 : decode b_Mod_canColour 81 = .ok (.iload 4, 2) := by decide +kernel
theorem d_Mod_canColour_83 : decode b_Mod_canColour 83 = .ok (.iaload, 1) := by decide +kernel
theorem d_Mod_canColour_84 : decode b_Mod_canColour 84 = .ok (.iload_n 1, 1) := by decide +kernel
theorem d_Mod_canColour_85 : decode b_Mod_canColour 85 = .ok (.if_icmp .ge 26, 3) := by decide +kernel
theorem d_Mod_canColour_88 : decode b_Mod_canColour 88 = .ok (.aload_n 0, 1) := by decide +kernel
theorem d_Mod_canColour_89 : decode b_Mod_canColour 89 = .ok (.iload 4, 2) := by decide +kernel
theorem d_Mod_canColour_91 : decode b_Mod_canColour 91 = .ok (.invokevirtual 176, 3) := by decide +kernel
theorem d_Mod_canColour_94 : decode b_Mod_canColour 94 = .ok (.ifCond .ne 17, 3) := by decide +kernel
theorem d_Mod_canColour_97 : decode b_Mod_canColour 97 = .ok (.aload_n 0, 1) := by decide +kernel
theorem d_Mod_canColour_98 : decode b_Mod_canColour 98 = .ok (.getfield 62, 3) := by decide +kernel
theorem d_Mod_canColour_101 : decode b_Mod_canColour 101 = .ok (.iload 4, 2) := by decide +kernel
theorem d_Mod_canColour_103 : decode b_Mod_canColour 103 = .ok (.dup2, 1) := by decide +kernel
theorem d_Mod_canColour_104 : decode b_Mod_canColour 104 = .ok (.iaload, 1) := by decide +kernel
theorem d_Mod_canColour_105 : decode b_Mod_canColour 105 = .ok (.iconst 1, 1) := by decide +kernel
theorem d_Mod_canColour_106 : decode b_Mod_canColour 106 = .ok (.iadd, 1) := by decide +kernel
theorem d_Mod_canColour_107 : decode b_Mod_canColour 107 = .ok (.iastore, 1) := by decide +kernel
theorem d_Mod_canColour_108 : decode b_Mod_canColour 108 = .ok (.goto (-31), 3) := by decide +kernel
theorem d_Mod_canColour_111 : decode b_Mod_canColour 111 = .ok (.aload_n 0, 1) := by decide +kernel
theorem d_Mod_canColour_112 : decode b_Mod_canColour 112 = .ok (.getfield 62, 3) := by decide +kernel
theorem d_Mod_canColour_115 : decode b_Mod_canColour 115 = .ok (.iload 4, 2) := by decide +kernel
theorem d_Mod_canColour_117 : decode b_Mod_canColour 117 = .ok (.iaload, 1) := by decide +kernel
theorem d_Mod_canColour_118 : decode b_Mod_canColour 118 = .ok (.iload_n 1, 1) := by decide +kernel
theorem d_Mod_canColour_119 : decode b_Mod_canColour 119 = .ok (.if_icmp .ge 9, 3) := by decide +kernel
theorem d_Mod_canColour_122 : decode b_Mod_canColour 122 = .ok (.iinc 3 1, 3) := by decide +kernel
theorem d_Mod_canColour_125 : decode b_Mod_canColour 125 = .ok (.goto 14, 3) := by decide +kernel
theorem d_Mod_canColour_128 : decode b_Mod_canColour 128 = .ok (.aload_n 0, 1) := by decide +kernel
theorem d_Mod_canColour_129 : decode b_Mod_canColour 129 = .ok (.getfield 62, 3) := by decide +kernel
theorem d_Mod_canColour_132 : decode b_Mod_canColour 132 = .ok (.iload 4, 2) := by decide +kernel
theorem d_Mod_canColour_134 : decode b_Mod_canColour 134 = .ok (.iconst (-1), 1) := by decide +kernel
theorem d_Mod_canColour_135 : decode b_Mod_canColour 135 = .ok (.iastore, 1) := by decide +kernel
theorem d_Mod_canColour_136 : decode b_Mod_canColour 136 = .ok (.iinc 3 (-1), 3) := by decide +kernel
theorem d_Mod_canColour_139 : decode b_Mod_canColour 139 = .ok (.goto (-90), 3) := by decide +kernel
theorem d_Mod_canColour_151 : decode b_Mod_canColour 151 = .ok (.iconst 0, 1) := by decide +kernel
theorem d_Mod_canFork_0 : decode b_Mod_canFork 0 = .ok (.aload_n 0, 1) := by decide +kernel
theorem d_Mod_canFork_1 : decode b_Mod_canFork 1 = .ok (.iload_n 2, 1) := by decide +kernel
theorem d_Mod_canFork_2 : decode b_Mod_canFork 2 = .ok (.invokevirtual 131, 3) := by decide +kernel
theorem d_Mod_canFork_5 : decode b_Mod_canFork 5 = .ok (.istore_n 3, 1) := by decide +kernel
theorem d_Mod_canFork_6 : decode b_Mod_canFork 6 = .ok (.aload_n 0, 1) := by decide +kernel
theorem d_Mod_canFork_7 : decode b_Mod_canFork 7 = .ok (.iload_n 1, 1) := by decide +kernel
theorem d_Mod_canFork_8 : decode b_Mod_canFork 8 = .ok (.invokevirtual 131, 3) := by decide +kernel
theorem d_Mod_canFork_11 : decode b_Mod_canFork 11 = .ok (.istore 4, 2) := by decide +kernel
theorem d_Mod_canFork_13 : decode b_Mod_canFork 13 = .ok (.iconst (-1), 1) := by decide +kernel
theorem d_Mod_canFork_14 : decode b_Mod_canFork 14 = .ok (.istore 5, 2) := by decide +kernel
theorem d_Mod_canFork_16 : decode b_Mod_canFork 16 = .ok (.iconst (-1), 1) := by decide +kernel
theorem d_Mod_canFork_17 : decode b_Mod_canFork 17 = .ok (.istore 6, 2) := by decide +kernel
theorem d_Mod_canFork_19 : decode b_Mod_canFork 19 = .ok (.iconst 1, 1) := by decide +kernel
theorem d_Mod_canFork_20 : decode b_Mod_canFork 20 = .ok (.istore 7, 2) := by decide +kernel
theorem d_Mod_canFork_22 : decode b_Mod_canFork 22 = .ok (.iconst 0, 1) := by decide +kernel
theorem d_Mod_canFork_23 : decode b_Mod_canFork 23 = .ok (.istore 8, 2) := by decide +kernel
theorem d_Mod_canFork_25 : decode b_Mod_canFork 25 = .ok (.iload 8, 2) := by decide +kernel
theorem d_Mod_canFork_27 : decode b_Mod_canFork 27 = .ok (.aload_n 0, 1) := by decide +kernel
theorem d_Mod_canFork_28 : decode b_Mod_canFork 28 = .ok (.getfield 106, 3) := by decide +kernel
theorem d_Mod_canFork_31 : decode b_Mod_canFork 31 = .ok (.if_icmp .ge 128, 3) := by decide +kernel
theorem d_Mod_canFork_34 : decode b_Mod_canFork 34 = .ok (.aload_n 0, 1) := by decide +kernel
theorem d_Mod_canFork_35 : decode b_Mod_canFork 35 = .ok (.iload_n 1, 1) := by decide +kernel
theorem d_Mod_canFork_36 : decode b_Mod_canFork 36 = .ok (.iload 8, 2) := by decide +kernel
theorem d_Mod_canFork_38 : decode b_Mod_canFork 38 = .ok (.invokevirtual 121, 3) := by decide +kernel
theorem d_Mod_canFork_41 : decode b_Mod_canFork 41 = .ok (.ifCond .eq 52, 3) := by decide +kernel
theorem d_Mod_canFork_44 : decode b_Mod_canFork 44 = .ok (.aload_n 0, 1) := by decide +kernel
theorem d_Mod_canFork_45 : decode b_Mod_canFork 45 = .ok (.getfield 41, 3) := by decide +kernel
theorem d_Mod_canFork_48 : decode b_Mod_canFork 48 = .ok (.aload_n 0, 1) := by decide +kernel
theorem d_Mod_canFork_49 : decode b_Mod_canFork 49 = .ok (.getfield 35, 3) := by decide +kernel
theorem d_Mod_canFork_52 : decode b_Mod_canFork 52 = .ok (.iload 8, 2) := by decide +kernel
theorem d_Mod_canFork_54 : decode b_Mod_canFork 54 = .ok (.iaload, 1) := by decide +kernel
theorem d_Mod_canFork_55 : decode b_Mod_canFork 55 = .ok (.iaload, 1) := by decide +kernel
theorem d_Mod_canFork_56 : decode b_Mod_canFork 56 = .ok (.iload_n 3, 1) := by decide +kernel
theorem d_Mod_canFork_57 : decode b_Mod_canFork 57 = .ok (.if_icmp .le 36, 3) := by decide +kernel
theorem d_Mod_canFork_60 : decode b_Mod_canFork 60 = .ok (.iload 7, 2) := by decide +kernel
theorem d_Mod_canFork_62 : decode b_Mod_canFork 62 = .ok (.ifCond .eq 24, 3) := by decide +kernel
theorem d_Mod_canFork_65 : decode b_Mod_canFork 65 = .ok (.iload 5, 2) := by decide +kernel
theorem d_Mod_canFork_67 : decode b_Mod_canFork 67 = .ok (.ifCond .lt 15, 3) := by decide +kernel
theorem d_Mod_canFork_70 : decode b_Mod_canFork 70 = .ok (.aload_n 0, 1) := by decide +kernel
theorem d_Mod_canFork_71 : decode b_Mod_canFork 71 = .ok (.iload 5, 2) := by decide +kernel
theorem d_Mod_canFork_73 : decode b_Mod_canFork 73 = .ok (.iload 8, 2) := by decide +kernel
theorem d_Mod_canFork_75 : decode b_Mod_canFork 75 = .ok (.iconst 0, 1) := by decide +kernel
theorem d_Mod_canFork_76 : decode b_Mod_canFork 76 = .ok (.invokevirtual 134, 3) := by decide +kernel
theorem d_Mod_canFork_79 : decode b_Mod_canFork 79 = .ok (.ifCond .eq 7, 3) := by decide +kernel
theorem d_Mod_canFork_82 : decode b_Mod_canFork 82 = .ok (.iconst 1, 1) := by decide +kernel
theorem d_Mod_canFork_83 : decode b_Mod_canFork 83 = .ok (.goto 4, 3) := by decide +kernel
theorem d_Mod_canFork_86 : decode b_Mod_canFork 86 = .ok (.iconst 0, 1) := by decide +kernel
theorem d_Mod_canFork_87 : decode b_Mod_canFork 87 = .ok (.istore 7, 2) := by decide +kernel
theorem d_Mod_canFork_89 : decode b_Mod_canFork 89 = .ok (.iload 8, 2) := by decide +kernel
theorem d_Mod_canFork_91 : decode b_Mod_canFork 91 = .ok (.istore 5, 2) := by decide +kernel
theorem d_Mod_canFork_93 : decode b_Mod_canFork 93 = .ok (.aload_n 0, 1) := by decide +kernel
theorem d_Mod_canFork_94 : decode b_Mod_canFork 94 = .ok (.iload_n 2, 1) := by decide +kernel
theorem d_Mod_canFork_95 : decode b_Mod_canFork 95 = .ok (.iload 8, 2) := by decide +kernel
theorem d_Mod_canFork_97 : decode b_Mod_canFork 97 = .ok (.invokevirtual 121, 3) := by decide +kernel
theorem d_Mod_canFork_100 : decode b_Mod_canFork 100 = .ok (.ifCond .eq 53, 3) := by decide +kernel
theorem d_Mod_canFork_103 : decode b_Mod_canFork 103 = .ok (.aload_n 0, 1) := by decide +kernel
theorem d_Mod_canFork_104 : decode b_Mod_canFork 104 = .ok (.getfield 41, 3) := by decide +kernel
theorem d_Mod_canFork_107 : decode b_Mod_canFork 107 = .ok (.aload_n 0, 1) := by decide +kernel
theorem d_Mod_canFork_108 : decode b_Mod_canFork 108 = .ok (.getfield 35, 3) := by decide +kernel
theorem d_Mod_canFork_111 : decode b_Mod_canFork 111 = .ok (.iload 8, 2) := by decide +kernel
theorem d_Mod_canFork_113 : decode b_Mod_canFork 113 = .ok (.iaload, 1) := by decide +kernel
theorem d_Mod_canFork_114 : decode b_Mod_canFork 114 = .ok (.iaload, 1) := by decide +kernel
theorem d_Mod_canFork_115 : decode b_Mod_canFork 115 = .ok (.iload 4, 2) := by decide +kernel
theorem d_Mod_canFork_117 : decode b_Mod_canFork 117 = .ok (.if_icmp .le 36, 3) := by decide +kernel
theorem d_Mod_canFork_120 : decode b_Mod_canFork 120 = .ok (.iload 7, 2) := by decide +kernel
theorem d_Mod_canFork_122 : decode b_Mod_canFork 122 = .ok (.ifCond .eq 24, 3) := by decide +kernel
theorem d_Mod_canFork_125 : decode b_Mod_canFork 125 = .ok (.iload 6, 2) := by decide +kernel
theorem d_Mod_canFork_127 : decode b_Mod_canFork 127 = .ok (.ifCond .lt 15, 3) := by decide +kernel
theorem d_Mod_canFork_130 : decode b_Mod_canFork 130 = .ok (.aload_n 0, 1) := by decide +kernel
theorem d_Mod_canFork_131 : decode b_Mod_canFork 131 = .ok (.iload 6, 2) := by decide +kernel
theorem d_Mod_canFork_133 : decode b_Mod_canFork 133 = .ok (.iload 8, 2) := by decide +kernel
theorem d_Mod_canFork_135 : decode b_Mod_canFork 135 = .ok (.iconst 0, 1) := by decide +kernel
theorem d_Mod_canFork_136 : decode b_Mod_canFork 136 = .ok (.invokevirtual 134, 3) := by decide +kernel
theorem d_Mod_canFork_139 : decode b_Mod_canFork 139 = .ok (.ifCond .eq 7, 3) := by decide +kernel
theorem d_Mod_canFork_142 : decode b_Mod_canFork 142 = .ok (.iconst 1, 1) := by decide +kernel
theorem d_Mod_canFork_143 : decode b_Mod_canFork 143 = .ok (.goto 4, 3) := by decide +kernel
theorem d_Mod_canFork_146 : decode b_Mod_canFork 146 = .ok (.iconst 0, 1) := by decide +kernel
theorem d_Mod_canFork_147 : decode b_Mod_canFork 147 = .ok (.istore 7, 2) := by decide +kernel
theorem d_Mod_canFork_149 : decode b_Mod_canFork 149 = .ok (.iload 8, 2) := by decide +kernel
theorem d_Mod_canFork_151 : decode b_Mod_canFork 151 = .ok (.istore 6, 2) := by decide +kernel
theorem d_Mod_canFork_153 : decode b_Mod_canFork 153 = .ok (.iinc 8 1, 3) := by decide +kernel
theorem d_Mod_canFork_156 : decode b_Mod_canFork 156 = .ok (.goto (-131), 3) := by decide +kernel
theorem d_Mod_canFork_159 : decode b_Mod_canFork 159 = .ok (.iload 7, 2) := by decide +kernel
theorem d_Mod_canFork_161 : decode b_Mod_canFork 161 = .ok (.ifCond .eq 29, 3) := by decide +kernel
theorem d_Mod_canFork_164 : decode b_Mod_canFork 164 = .ok (.iload 5, 2) := by decide +kernel
theorem d_Mod_canFork_166 : decode b_Mod_canFork 166 = .ok (.ifCond .lt 20, 3) := by decide +kernel
theorem d_Mod_canFork_169 : decode b_Mod_canFork 169 = .ok (.iload 6, 2) := by decide +kernel
theorem d_Mod_canFork_171 : decode b_Mod_canFork 171 = .ok (.ifCond .lt 15, 3) := by decide +kernel
theorem d_Mod_canFork_174 : decode b_Mod_canFork 174 = .ok (.aload_n 0, 1) := by decide +kernel
theorem d_Mod_canFork_175 : decode b_Mod_canFork 175 = .ok (.iload 5, 2) := by decide +kernel
theorem d_Mod_canFork_177 : decode b_Mod_canFork 177 = .ok (.iload 6, 2) := by decide +kernel
theorem d_Mod_canFork_179 : decode b_Mod_canFork 179 = .ok (.iconst 1, 1) := by decide +kernel
theorem d_Mod_canFork_180 : decode b_Mod_canFork 180 = .ok (.invokevirtual 134, 3) := by decide +kernel
theorem d_Mod_canFork_183 : decode b_Mod_canFork 183 = .ok (.ifCond .eq 7, 3) := by decide +kernel
theorem d_Mod_canFork_186 : decode b_Mod_canFork 186 = .ok (.iconst 1, 1) := by decide +kernel
theorem d_Mod_canFork_187 : decode b_Mod_canFork 187 = .ok (.goto 4, 3) := by decide +kernel
theorem d_Mod_canFork_190 : decode b_Mod_canFork 190 = .ok (.iconst 0, 1) := by decide +kernel
theorem d_Mod_canFork_191 : decode b_Mod_canFork 191 = .ok (.ireturn, 1) := by decide +kernel
theorem d_Mod_colour_13 : decode b_Mod_colour 13 = .ok (.iconst 0, 1) := by decide +kernel
theorem d_Mod_colour_24 : decode b_Mod_colour 24 = .ok (.aload_n 0, 1) := by decide +kernel
theorem d_Mod_colour_25 : decode b_Mod_colour 25 = .ok (.invokevirtual 182, 3) := by decide +kernel
theorem d_Mod_colour_28 : decode b_Mod_colour 28 = .ok (.istore_n 2, 1) := by decide +kernel
theorem d_Mod_colour_29 : decode b_Mod_colour 29 = .ok (.iload_n 2, 1) := by decide +kernel
theorem d_Mod_colour_30 : decode b_Mod_colour 30 = .ok (.ifCond .le 12, 3) := by decide +kernel
theorem d_Mod_colour_33 : decode b_Mod_colour 33 = .ok (.aload_n 0, 1) := by decide +kernel
theorem d_Mod_colour_34 : decode b_Mod_colour 34 = .ok (.getfield 62, 3) := by decide +kernel
theorem d_Mod_colour_37 : decode b_Mod_colour 37 = .ok (.iload_n 1, 1) := by decide +kernel
theorem d_Mod_colour_38 : decode b_Mod_colour 38 = .ok (.iaload, 1) := by decide +kernel
theorem d_Mod_colour_39 : decode b_Mod_colour 39 = .ok (.goto 4, 3) := by decide +kernel
theorem d_Mod_colour_42 : decode b_Mod_colour 42 = .ok (.iconst 0, 1) := by decide +kernel
theorem d_Mod_colour_43 : decode b_Mod_colour 43 = .ok (.ireturn, 1) := by decide +kernel
theorem d_Mod_corner_13 : decode b_Mod_corner 13 = .ok (.aload_n 0, 1) := by decide +kernel
theorem d_Mod_corner_14 : decode b_Mod_corner 14 = .ok (.iload_n 2, 1) := by decide +kernel
theorem d_Mod_corner_15 : decode b_Mod_corner 15 = .ok (.invokevirtual 160, 3) := by decide +kernel
theorem d_Mod_corner_28 : decode b_Mod_corner 28 = .ok (.iconst 0, 1) := by decide +kernel
theorem d_Mod_corner_52 : decode b_Mod_corner 52 = .ok (.iload_n 3, 1) := by decide +kernel
theorem d_Mod_corner_53 : decode b_Mod_corner 53 = .ok (.iconst 5, 1) := by decide +kernel
theorem d_Mod_corner_54 : decode b_Mod_corner 54 = .ok (.if_icmp .ne 7, 3) := by decide +kernel
theorem d_Mod_corner_57 : decode b_Mod_corner 57 = .ok (.iconst 0, 1) := by decide +kernel
theorem d_Mod_corner_58 : decode b_Mod_corner 58 = .ok (.goto 8, 3) := by decide +kernel
theorem d_Mod_corner_61 : decode b_Mod_corner 61 = .ok (.aload_n 0, 1) := by decide +kernel
theorem d_Mod_corner_62 : decode b_Mod_corner 62 = .ok (.iload_n 2, 1) := by decide +kernel
theorem d_Mod_corner_63 : decode b_Mod_corner 63 = .ok (.invokevirtual 167, 3) := by decide +kernel
theorem d_Mod_corner_66 : decode b_Mod_corner 66 = .ok (.istore 4, 2) := by decide +kernel
theorem d_Mod_corner_68 : decode b_Mod_corner 68 = .ok (.iload_n 1, 1) := by decide +kernel
theorem d_Mod_corner_69 : decode b_Mod_corner 69 = .ok (.istore 5, 2) := by decide +kernel
theorem d_Mod_corner_71 : decode b_Mod_corner 71 = .ok (.iconst 0, 1) := by decide +kernel
