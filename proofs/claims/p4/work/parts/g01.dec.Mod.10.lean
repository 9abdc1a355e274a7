theorem d_Mod_spare_6 : decode b_Mod_spare 6 = .ok (.invokevirtual 103, 3) := by decide +kernel
theorem d_Mod_spare_9 : decode b_Mod_spare 9 = .ok (.istore_n 1, 1) := by decide +kernel
theorem d_Mod_spare_10 : decode b_Mod_spare 10 = .ok (.aload_n 0, 1) := by decide +kernel
theorem d_Mod_spare_11 : decode b_Mod_spare 11 = .ok (.iload_n 1, 1) := by decide +kernel
theorem d_Mod_spare_12 : decode b_Mod_spare 12 = .ok (.invokevirtual 151, 3) := by decide +kernel
theorem d_Mod_spare_15 : decode b_Mod_spare 15 = .ok (.ifCond .eq 5, 3) := by decide +kernel
theorem d_Mod_spare_18 : decode b_Mod_spare 18 = .ok (.iconst 0, 1) := by decide +kernel
theorem d_Mod_spare_19 : decode b_Mod_spare 19 = .ok (.ireturn, 1) := by decide +kernel
theorem d_Mod_spare_20 : decode b_Mod_spare 20 = .ok (.iconst 0, 1) := by decide +kernel
theorem d_Mod_spare_21 : decode b_Mod_spare 21 = .ok (.istore_n 2, 1) := by decide +kernel
theorem d_Mod_spare_22 : decode b_Mod_spare 22 = .ok (.iconst 0, 1) := by decide +kernel
theorem d_Mod_spare_23 : decode b_Mod_spare 23 = .ok (.istore_n 3, 1) := by decide +kernel
theorem d_Mod_spare_24 : decode b_Mod_spare 24 = .ok (.iload_n 3, 1) := by decide +kernel
theorem d_Mod_spare_25 : decode b_Mod_spare 25 = .ok (.bipush 24, 2) := by decide +kernel
theorem d_Mod_spare_27 : decode b_Mod_spare 27 = .ok (.if_icmp .ge 34, 3) := by decide +kernel
theorem d_Mod_spare_30 : decode b_Mod_spare 30 = .ok (.iload_n 1, 1) := by decide +kernel
theorem d_Mod_spare_31 : decode b_Mod_spare 31 = .ok (.iload_n 3, 1) := by decide +kernel
theorem d_Mod_spare_32 : decode b_Mod_spare 32 = .ok (.ishr, 1) := by decide +kernel
theorem d_Mod_spare_33 : decode b_Mod_spare 33 = .ok (.iconst 1, 1) := by decide +kernel
theorem d_Mod_spare_34 : decode b_Mod_spare 34 = .ok (.iand, 1) := by decide +kernel
theorem d_Mod_spare_35 : decode b_Mod_spare 35 = .ok (.iconst 1, 1) := by decide +kernel
theorem d_Mod_spare_36 : decode b_Mod_spare 36 = .ok (.if_icmp .ne 19, 3) := by decide +kernel
theorem d_Mod_spare_39 : decode b_Mod_spare 39 = .ok (.aload_n 0, 1) := by decide +kernel
theorem d_Mod_spare_40 : decode b_Mod_spare 40 = .ok (.iload_n 1, 1) := by decide +kernel
theorem d_Mod_spare_41 : decode b_Mod_spare 41 = .ok (.iconst 1, 1) := by decide +kernel
theorem d_Mod_spare_42 : decode b_Mod_spare 42 = .ok (.iload_n 3, 1) := by decide +kernel
theorem d_Mod_spare_43 : decode b_Mod_spare 43 = .ok (.ishl, 1) := by decide +kernel
theorem d_Mod_spare_44 : decode b_Mod_spare 44 = .ok (.iconst (-1), 1) := by decide +kernel
theorem d_Mod_spare_45 : decode b_Mod_spare 45 = .ok (.ixor, 1) := by decide +kernel
theorem d_Mod_spare_46 : decode b_Mod_spare 46 = .ok (.iand, 1) := by decide +kernel
theorem d_Mod_spare_47 : decode b_Mod_spare 47 = .ok (.invokevirtual 151, 3) := by decide +kernel
theorem d_Mod_spare_50 : decode b_Mod_spare 50 = .ok (.ifCond .eq 5, 3) := by decide +kernel
theorem d_Mod_spare_53 : decode b_Mod_spare 53 = .ok (.iconst 1, 1) := by decide +kernel
theorem d_Mod_spare_54 : decode b_Mod_spare 54 = .ok (.ireturn, 1) := by decide +kernel
theorem d_Mod_spare_55 : decode b_Mod_spare 55 = .ok (.iinc 3 1, 3) := by decide +kernel
theorem d_Mod_spare_58 : decode b_Mod_spare 58 = .ok (.goto (-34), 3) := by decide +kernel
theorem d_Mod_spare_61 : decode b_Mod_spare 61 = .ok (.iconst 0, 1) := by decide +kernel
theorem d_Mod_spare_62 : decode b_Mod_spare 62 = .ok (.istore_n 3, 1) := by decide +kernel
theorem d_Mod_spare_63 : decode b_Mod_spare 63 = .ok (.iload_n 3, 1) := by decide +kernel
theorem d_Mod_spare_64 : decode b_Mod_spare 64 = .ok (.bipush 24, 2) := by decide +kernel
theorem d_Mod_spare_66 : decode b_Mod_spare 66 = .ok (.if_icmp .ge 77, 3) := by decide +kernel
theorem d_Mod_spare_69 : decode b_Mod_spare 69 = .ok (.iload_n 3, 1) := by decide +kernel
theorem d_Mod_spare_70 : decode b_Mod_spare 70 = .ok (.iconst 1, 1) := by decide +kernel
theorem d_Mod_spare_71 : decode b_Mod_spare 71 = .ok (.iadd, 1) := by decide +kernel
theorem d_Mod_spare_72 : decode b_Mod_spare 72 = .ok (.istore 4, 2) := by decide +kernel
theorem d_Mod_spare_74 : decode b_Mod_spare 74 = .ok (.iload 4, 2) := by decide +kernel
theorem d_Mod_spare_76 : decode b_Mod_spare 76 = .ok (.bipush 24, 2) := by decide +kernel
theorem d_Mod_spare_78 : decode b_Mod_spare 78 = .ok (.if_icmp .ge 59, 3) := by decide +kernel
theorem d_Mod_spare_81 : decode b_Mod_spare 81 = .ok (.iload_n 2, 1) := by decide +kernel
theorem d_Mod_spare_82 : decode b_Mod_spare 82 = .ok (.ifCond .ne 55, 3) := by decide +kernel
theorem d_Mod_spare_85 : decode b_Mod_spare 85 = .ok (.iload_n 1, 1) := by decide +kernel
theorem d_Mod_spare_86 : decode b_Mod_spare 86 = .ok (.iload_n 3, 1) := by decide +kernel
theorem d_Mod_spare_87 : decode b_Mod_spare 87 = .ok (.ishr, 1) := by decide +kernel
theorem d_Mod_spare_88 : decode b_Mod_spare 88 = .ok (.iconst 1, 1) := by decide +kernel
theorem d_Mod_spare_89 : decode b_Mod_spare 89 = .ok (.iand, 1) := by decide +kernel
theorem d_Mod_spare_90 : decode b_Mod_spare 90 = .ok (.iconst 1, 1) := by decide +kernel
theorem d_Mod_spare_91 : decode b_Mod_spare 91 = .ok (.if_icmp .ne 38, 3) := by decide +kernel
theorem d_Mod_spare_94 : decode b_Mod_spare 94 = .ok (.iload_n 1, 1) := by decide +kernel
theorem d_Mod_spare_95 : decode b_Mod_spare 95 = .ok (.iload 4, 2) := by decide +kernel
theorem d_Mod_spare_97 : decode b_Mod_spare 97 = .ok (.ishr, 1) := by decide +kernel
theorem d_Mod_spare_98 : decode b_Mod_spare 98 = .ok (.iconst 1, 1) := by decide +kernel
theorem d_Mod_spare_99 : decode b_Mod_spare 99 = .ok (.iand, 1) := by decide +kernel
theorem d_Mod_spare_100 : decode b_Mod_spare 100 = .ok (.iconst 1, 1) := by decide +kernel
theorem d_Mod_spare_101 : decode b_Mod_spare 101 = .ok (.if_icmp .ne 28, 3) := by decide +kernel
theorem d_Mod_spare_104 : decode b_Mod_spare 104 = .ok (.aload_n 0, 1) := by decide +kernel
theorem d_Mod_spare_105 : decode b_Mod_spare 105 = .ok (.iload_n 1, 1) := by decide +kernel
theorem d_Mod_spare_106 : decode b_Mod_spare 106 = .ok (.iconst 1, 1) := by decide +kernel
theorem d_Mod_spare_107 : decode b_Mod_spare 107 = .ok (.iload_n 3, 1) := by decide +kernel
theorem d_Mod_spare_108 : decode b_Mod_spare 108 = .ok (.ishl, 1) := by decide +kernel
theorem d_Mod_spare_109 : decode b_Mod_spare 109 = .ok (.iconst (-1), 1) := by decide +kernel
theorem d_Mod_spare_110 : decode b_Mod_spare 110 = .ok (.ixor, 1) := by decide +kernel
theorem d_Mod_spare_111 : decode b_Mod_spare 111 = .ok (.iand, 1) := by decide +kernel
theorem d_Mod_spare_112 : decode b_Mod_spare 112 = .ok (.iconst 1, 1) := by decide +kernel
theorem d_Mod_spare_113 : decode b_Mod_spare 113 = .ok (.iload 4, 2) := by decide +kernel
theorem d_Mod_spare_115 : decode b_Mod_spare 115 = .ok (.ishl, 1) := by decide +kernel
theorem d_Mod_spare_116 : decode b_Mod_spare 116 = .ok (.iconst (-1), 1) := by decide +kernel
theorem d_Mod_spare_117 : decode b_Mod_spare 117 = .ok (.ixor, 1) := by decide +kernel
theorem d_Mod_spare_118 : decode b_Mod_spare 118 = .ok (.iand, 1) := by decide +kernel
theorem d_Mod_spare_119 : decode b_Mod_spare 119 = .ok (.invokevirtual 151, 3) := by decide +kernel
theorem d_Mod_spare_122 : decode b_Mod_spare 122 = .ok (.ifCond .eq 7, 3) := by decide +kernel
theorem d_Mod_spare_125 : decode b_Mod_spare 125 = .ok (.iconst 1, 1) := by decide +kernel
theorem d_Mod_spare_126 : decode b_Mod_spare 126 = .ok (.goto 4, 3) := by decide +kernel
theorem d_Mod_spare_129 : decode b_Mod_spare 129 = .ok (.iconst 0, 1) := by decide +kernel
theorem d_Mod_spare_130 : decode b_Mod_spare 130 = .ok (.istore_n 2, 1) := by decide +kernel
theorem d_Mod_spare_131 : decode b_Mod_spare 131 = .ok (.iinc 4 1, 3) := by decide +kernel
theorem d_Mod_spare_134 : decode b_Mod_spare 134 = .ok (.goto (-60), 3) := by decide +kernel
theorem d_Mod_spare_137 : decode b_Mod_spare 137 = .ok (.iinc 3 1, 3) := by decide +kernel
theorem d_Mod_spare_140 : decode b_Mod_spare 140 = .ok (.goto (-77), 3) := by decide +kernel
theorem d_Mod_spare_143 : decode b_Mod_spare 143 = .ok (.iload_n 2, 1) := by decide +kernel
theorem d_Mod_spare_144 : decode b_Mod_spare 144 = .ok (.ifCond .eq 7, 3) := by decide +kernel
theorem d_Mod_spare_147 : decode b_Mod_spare 147 = .ok (.iconst 2, 1) := by decide +kernel
theorem d_Mod_spare_148 : decode b_Mod_spare 148 = .ok (.goto 4, 3) := by decide +kernel
theorem d_Mod_spare_151 : decode b_Mod_spare 151 = .ok (.iconst 3, 1) := by decide +kernel
theorem d_Mod_spare_152 : decode b_Mod_spare 152 = .ok (.ireturn, 1) := by decide +kernel
theorem d_Mod_thrown_0 : decode b_Mod_thrown 0 = .ok (.aload_n 0, 1) := by decide +kernel
theorem d_Mod_thrown_1 : decode b_Mod_thrown 1 = .ok (.getfield 68, 3) := by decide +kernel
theorem d_Mod_thrown_4 : decode b_Mod_thrown 4 = .ok (.ireturn, 1) := by decide +kernel
theorem d_Mod_turn_0 : decode b_Mod_turn 0 = .ok (.aload_n 0, 1) := by decide +kernel
theorem d_Mod_turn_1 : decode b_Mod_turn 1 = .ok (.getfield 20, 3) := by decide +kernel
theorem d_Mod_turn_4 : decode b_Mod_turn 4 = .ok (.iload_n 2, 1) := by decide +kernel
theorem d_Mod_turn_5 : decode b_Mod_turn 5 = .ok (.iaload, 1) := by decide +kernel
theorem d_Mod_turn_6 : decode b_Mod_turn 6 = .ok (.aload_n 0, 1) := by decide +kernel
theorem d_Mod_turn_7 : decode b_Mod_turn 7 = .ok (.getfield 20, 3) := by decide +kernel
theorem d_Mod_turn_10 : decode b_Mod_turn 10 = .ok (.iload_n 1, 1) := by decide +kernel
theorem d_Mod_turn_11 : decode b_Mod_turn 11 = .ok (.iaload, 1) := by decide +kernel
theorem d_Mod_turn_12 : decode b_Mod_turn 12 = .ok (.isub, 1) := by decide +kernel
theorem d_Mod_turn_13 : decode b_Mod_turn 13 = .ok (.aload_n 0, 1) := by decide +kernel
theorem d_Mod_turn_14 : decode b_Mod_turn 14 = .ok (.getfield 23, 3) := by decide +kernel
theorem d_Mod_turn_17 : decode b_Mod_turn 17 = .ok (.iload_n 3, 1) := by decide +kernel
theorem d_Mod_turn_18 : decode b_Mod_turn 18 = .ok (.iaload, 1) := by decide +kernel
theorem d_Mod_turn_19 : decode b_Mod_turn 19 = .ok (.aload_n 0, 1) := by decide +kernel
theorem d_Mod_turn_20 : decode b_Mod_turn 20 = .ok (.getfield 23, 3) := by decide +kernel
theorem d_Mod_turn_23 : decode b_Mod_turn 23 = .ok (.iload_n 1, 1) := by decide +kernel
theorem d_Mod_turn_24 : decode b_Mod_turn 24 = .ok (.iaload, 1) := by decide +kernel
theorem d_Mod_turn_25 : decode b_Mod_turn 25 = .ok (.isub, 1) := by decide +kernel
theorem d_Mod_turn_26 : decode b_Mod_turn 26 = .ok (.imul, 1) := by decide +kernel
theorem d_Mod_turn_27 : decode b_Mod_turn 27 = .ok (.aload_n 0, 1) := by decide +kernel
theorem d_Mod_turn_28 : decode b_Mod_turn 28 = .ok (.getfield 23, 3) := by decide +kernel
theorem d_Mod_turn_31 : decode b_Mod_turn 31 = .ok (.iload_n 2, 1) := by decide +kernel
theorem d_Mod_turn_32 : decode b_Mod_turn 32 = .ok (.iaload, 1) := by decide +kernel
theorem d_Mod_turn_33 : decode b_Mod_turn 33 = .ok (.aload_n 0, 1) := by decide +kernel
theorem d_Mod_turn_34 : decode b_Mod_turn 34 = .ok (.getfield 23, 3) := by decide +kernel
theorem d_Mod_turn_37 : decode b_Mod_turn 37 = .ok (.iload_n 1, 1) := by decide +kernel
theorem d_Mod_turn_38 : decode b_Mod_turn 38 = .ok (.iaload, 1) := by decide +kernel
theorem d_Mod_turn_39 : decode b_Mod_turn 39 = .ok (.isub, 1) := by decide +kernel
theorem d_Mod_turn_40 : decode b_Mod_turn 40 = .ok (.aload_n 0, 1) := by decide +kernel
theorem d_Mod_turn_41 : decode b_Mod_turn 41 = .ok (.getfield 20, 3) := by decide +kernel
theorem d_Mod_turn_44 : decode b_Mod_turn 44 = .ok (.iload_n 3, 1) := by decide +kernel
theorem d_Mod_turn_45 : decode b_Mod_turn 45 = .ok (.iaload, 1) := by decide +kernel
theorem d_Mod_turn_46 : decode b_Mod_turn 46 = .ok (.aload_n 0, 1) := by decide +kernel
theorem d_Mod_turn_47 : decode b_Mod_turn 47 = .ok (.getfield 20, 3) := by decide +kernel
theorem d_Mod_turn_50 : decode b_Mod_turn 50 = .ok (.iload_n 1, 1) := by decide +kernel
theorem d_Mod_turn_51 : decode b_Mod_turn 51 = .ok (.iaload, 1) := by decide +kernel
theorem d_Mod_turn_52 : decode b_Mod_turn 52 = .ok (.isub, 1) := by decide +kernel
theorem d_Mod_turn_53 : decode b_Mod_turn 53 = .ok (.imul, 1) := by decide +kernel
theorem d_Mod_turn_54 : decode b_Mod_turn 54 = .ok (.isub, 1) := by decide +kernel
theorem d_Mod_turn_55 : decode b_Mod_turn 55 = .ok (.istore 4, 2) := by decide +kernel
theorem d_Mod_turn_57 : decode b_Mod_turn 57 = .ok (.iload 4, 2) := by decide +kernel
theorem d_Mod_turn_59 : decode b_Mod_turn 59 = .ok (.ifCond .le 7, 3) := by decide +kernel
theorem d_Mod_turn_62 : decode b_Mod_turn 62 = .ok (.iconst 1, 1) := by decide +kernel
theorem d_Mod_turn_63 : decode b_Mod_turn 63 = .ok (.goto 13, 3) := by decide +kernel
theorem d_Mod_turn_66 : decode b_Mod_turn 66 = .ok (.iload 4, 2) := by decide +kernel
theorem d_Mod_turn_68 : decode b_Mod_turn 68 = .ok (.ifCond .ge 7, 3) := by decide +kernel
theorem d_Mod_turn_71 : decode b_Mod_turn 71 = .ok (.iconst (-1), 1) := by decide +kernel
theorem d_Mod_turn_72 : decode b_Mod_turn 72 = .ok (.goto 4, 3) := by decide +kernel
theorem d_Mod_turn_75 : decode b_Mod_turn 75 = .ok (.iconst 0, 1) := by decide +kernel
theorem d_Mod_turn_76 : decode b_Mod_turn 76 = .ok (.ireturn, 1) := by decide +kernel
theorem d_Mod_turnOf_0 : decode b_Mod_turnOf 0 = .ok (.iload_n 1, 1) := by decide +kernel
theorem d_Mod_turnOf_1 : decode b_Mod_turnOf 1 = .ok (.istore_n 2, 1) := by decide +kernel
theorem d_Mod_turnOf_2 : decode b_Mod_turnOf 2 = .ok (.aload_n 0, 1) := by decide +kernel
theorem d_Mod_turnOf_3 : decode b_Mod_turnOf 3 = .ok (.getfield 56, 3) := by decide +kernel
theorem d_Mod_turnOf_6 : decode b_Mod_turnOf 6 = .ok (.iload_n 2, 1) := by decide +kernel
theorem d_Mod_turnOf_7 : decode b_Mod_turnOf 7 = .ok (.iaload, 1) := by decide +kernel
theorem d_Mod_turnOf_8 : decode b_Mod_turnOf 8 = .ok (.istore_n 3, 1) := by decide +kernel
theorem d_Mod_turnOf_9 : decode b_Mod_turnOf 9 = .ok (.aload_n 0, 1) := by decide +kernel
theorem d_Mod_turnOf_10 : decode b_Mod_turnOf 10 = .ok (.getfield 53, 3) := by decide +kernel
theorem d_Mod_turnOf_13 : decode b_Mod_turnOf 13 = .ok (.iload_n 2, 1) := by decide +kernel
theorem d_Mod_turnOf_14 : decode b_Mod_turnOf 14 = .ok (.iaload, 1) := by decide +kernel
theorem d_Mod_turnOf_15 : decode b_Mod_turnOf 15 = .ok (.iload_n 2, 1) := by decide +kernel
theorem d_Mod_turnOf_16 : decode b_Mod_turnOf 16 = .ok (.if_icmp .eq 22, 3) := by decide +kernel
theorem d_Mod_turnOf_19 : decode b_Mod_turnOf 19 = .ok (.aload_n 0, 1) := by decide +kernel
theorem d_Mod_turnOf_20 : decode b_Mod_turnOf 20 = .ok (.getfield 53, 3) := by decide +kernel
theorem d_Mod_turnOf_23 : decode b_Mod_turnOf 23 = .ok (.iload_n 2, 1) := by decide +kernel
theorem d_Mod_turnOf_24 : decode b_Mod_turnOf 24 = .ok (.iaload, 1) := by decide +kernel
theorem d_Mod_turnOf_25 : decode b_Mod_turnOf 25 = .ok (.istore_n 2, 1) := by decide +kernel
theorem d_Mod_turnOf_26 : decode b_Mod_turnOf 26 = .ok (.iload_n 3, 1) := by decide +kernel
theorem d_Mod_turnOf_27 : decode b_Mod_turnOf 27 = .ok (.aload_n 0, 1) := by decide +kernel
theorem d_Mod_turnOf_28 : decode b_Mod_turnOf 28 = .ok (.getfield 56, 3) := by decide +kernel
theorem d_Mod_turnOf_31 : decode b_Mod_turnOf 31 = .ok (.iload_n 2, 1) := by decide +kernel
theorem d_Mod_turnOf_32 : decode b_Mod_turnOf 32 = .ok (.iaload, 1) := by decide +kernel
theorem d_Mod_turnOf_33 : decode b_Mod_turnOf 33 = .ok (.ixor, 1) := by decide +kernel
theorem d_Mod_turnOf_34 : decode b_Mod_turnOf 34 = .ok (.istore_n 3, 1) := by decide +kernel
theorem d_Mod_turnOf_35 : decode b_Mod_turnOf 35 = .ok (.goto (-26), 3) := by decide +kernel
theorem d_Mod_turnOf_38 : decode b_Mod_turnOf 38 = .ok (.iload_n 3, 1) := by decide +kernel
theorem d_Mod_turnOf_39 : decode b_Mod_turnOf 39 = .ok (.ireturn, 1) := by decide +kernel
theorem d_Mod_walk_0 : decode b_Mod_walk 0 = .ok (.iconst 0, 1) := by decide +kernel
theorem d_Mod_walk_1 : decode b_Mod_walk 1 = .ok (.istore_n 1, 1) := by decide +kernel
theorem d_Mod_walk_2 : decode b_Mod_walk 2 = .ok (.iload_n 1, 1) := by decide +kernel
theorem d_Mod_walk_3 : decode b_Mod_walk 3 = .ok (.aload_n 0, 1) := by decide +kernel
theorem d_Mod_walk_4 : decode b_Mod_walk 4 = .ok (.getfield 106, 3) := by decide +kernel
theorem d_Mod_walk_7 : decode b_Mod_walk 7 = .ok (.if_icmp .ge 30, 3) := by decide +kernel
theorem d_Mod_walk_10 : decode b_Mod_walk 10 = .ok (.aload_n 0, 1) := by decide +kernel
theorem d_Mod_walk_11 : decode b_Mod_walk 11 = .ok (.getfield 38, 3) := by decide +kernel
theorem d_Mod_walk_14 : decode b_Mod_walk 14 = .ok (.iload_n 1, 1) := by decide +kernel
theorem d_Mod_walk_15 : decode b_Mod_walk 15 = .ok (.iconst 0, 1) := by decide +kernel
theorem d_Mod_walk_16 : decode b_Mod_walk 16 = .ok (.iastore, 1) := by decide +kernel
theorem d_Mod_walk_17 : decode b_Mod_walk 17 = .ok (.aload_n 0, 1) := by decide +kernel
theorem d_Mod_walk_18 : decode b_Mod_walk 18 = .ok (.getfield 53, 3) := by decide +kernel
theorem d_Mod_walk_21 : decode b_Mod_walk 21 = .ok (.iload_n 1, 1) := by decide +kernel
theorem d_Mod_walk_22 : decode b_Mod_walk 22 = .ok (.iload_n 1, 1) := by decide +kernel
theorem d_Mod_walk_23 : decode b_Mod_walk 23 = .ok (.iastore, 1) := by decide +kernel
theorem d_Mod_walk_24 : decode b_Mod_walk 24 = .ok (.aload_n 0, 1) := by decide +kernel
theorem d_Mod_walk_25 : decode b_Mod_walk 25 = .ok (.getfield 56, 3) := by decide +kernel
theorem d_Mod_walk_28 : decode b_Mod_walk 28 = .ok (.iload_n 1, 1) := by decide +kernel
theorem d_Mod_walk_29 : decode b_Mod_walk 29 = .ok (.iconst 0, 1) := by decide +kernel
theorem d_Mod_walk_30 : decode b_Mod_walk 30 = .ok (.iastore, 1) := by decide +kernel
theorem d_Mod_walk_31 : decode b_Mod_walk 31 = .ok (.iinc 1 1, 3) := by decide +kernel
theorem d_Mod_walk_34 : decode b_Mod_walk 34 = .ok (.goto (-32), 3) := by decide +kernel
theorem d_Mod_walk_37 : decode b_Mod_walk 37 = .ok (.iconst 0, 1) := by decide +kernel
theorem d_Mod_walk_38 : decode b_Mod_walk 38 = .ok (.istore_n 1, 1) := by decide +kernel
theorem d_Mod_walk_39 : decode b_Mod_walk 39 = .ok (.iload_n 1, 1) := by decide +kernel
theorem d_Mod_walk_40 : decode b_Mod_walk 40 = .ok (.bipush 11, 2) := by decide +kernel
theorem d_Mod_walk_42 : decode b_Mod_walk 42 = .ok (.if_icmp .ge 16, 3) := by decide +kernel
theorem d_Mod_walk_45 : decode b_Mod_walk 45 = .ok (.aload_n 0, 1) := by decide +kernel
theorem d_Mod_walk_46 : decode b_Mod_walk 46 = .ok (.getfield 41, 3) := by decide +kernel
theorem d_Mod_walk_49 : decode b_Mod_walk 49 = .ok (.iload_n 1, 1) := by decide +kernel
theorem d_Mod_walk_50 : decode b_Mod_walk 50 = .ok (.iconst (-1), 1) := by decide +kernel
theorem d_Mod_walk_51 : decode b_Mod_walk 51 = .ok (.iastore, 1) := by decide +kernel
theorem d_Mod_walk_52 : decode b_Mod_walk 52 = .ok (.iinc 1 1, 3) := by decide +kernel
theorem d_Mod_walk_55 : decode b_Mod_walk 55 = .ok (.goto (-16), 3) := by decide +kernel
theorem d_Mod_walk_58 : decode b_Mod_walk 58 = .ok (.iconst 0, 1) := by decide +kernel
theorem d_Mod_walk_59 : decode b_Mod_walk 59 = .ok (.istore_n 1, 1) := by decide +kernel
theorem d_Mod_walk_60 : decode b_Mod_walk 60 = .ok (.iload_n 1, 1) := by decide +kernel
theorem d_Mod_walk_61 : decode b_Mod_walk 61 = .ok (.bipush 11, 2) := by decide +kernel
theorem d_Mod_walk_63 : decode b_Mod_walk 63 = .ok (.if_icmp .ge 23, 3) := by decide +kernel
theorem d_Mod_walk_66 : decode b_Mod_walk 66 = .ok (.aload_n 0, 1) := by decide +kernel
theorem d_Mod_walk_67 : decode b_Mod_walk 67 = .ok (.getfield 41, 3) := by decide +kernel
theorem d_Mod_walk_70 : decode b_Mod_walk 70 = .ok (.iload_n 1, 1) := by decide +kernel
theorem d_Mod_walk_71 : decode b_Mod_walk 71 = .ok (.iaload, 1) := by decide +kernel
theorem d_Mod_walk_72 : decode b_Mod_walk 72 = .ok (.ifCond .ge 8, 3) := by decide +kernel
theorem d_Mod_walk_75 : decode b_Mod_walk 75 = .ok (.aload_n 0, 1) := by decide +kernel
theorem d_Mod_walk_76 : decode b_Mod_walk 76 = .ok (.iload_n 1, 1) := by decide +kernel
theorem d_Mod_walk_77 : decode b_Mod_walk 77 = .ok (.invokevirtual 113, 3) := by decide +kernel
theorem d_Mod_walk_80 : decode b_Mod_walk 80 = .ok (.iinc 1 1, 3) := by decide +kernel
theorem d_Mod_walk_83 : decode b_Mod_walk 83 = .ok (.goto (-23), 3) := by decide +kernel
theorem d_Mod_walk_86 : decode b_Mod_walk 86 = .ok (.return_, 1) := by decide +kernel
theorem d_Mod_walkFrom_0 : decode b_Mod_walkFrom 0 = .ok (.iconst 1, 1) := by decide +kernel
theorem d_Mod_walkFrom_1 : decode b_Mod_walkFrom 1 = .ok (.istore_n 2, 1) := by decide +kernel
theorem d_Mod_walkFrom_2 : decode b_Mod_walkFrom 2 = .ok (.aload_n 0, 1) := by decide +kernel
theorem d_Mod_walkFrom_3 : decode b_Mod_walkFrom 3 = .ok (.getfield 47, 3) := by decide +kernel
theorem d_Mod_walkFrom_6 : decode b_Mod_walkFrom 6 = .ok (.iconst 0, 1) := by decide +kernel
theorem d_Mod_walkFrom_7 : decode b_Mod_walkFrom 7 = .ok (.iload_n 1, 1) := by decide +kernel
theorem d_Mod_walkFrom_8 : decode b_Mod_walkFrom 8 = .ok (.iastore, 1) := by decide +kernel
theorem d_Mod_walkFrom_9 : decode b_Mod_walkFrom 9 = .ok (.aload_n 0, 1) := by decide +kernel
theorem d_Mod_walkFrom_10 : decode b_Mod_walkFrom 10 = .ok (.getfield 50, 3) := by decide +kernel
theorem d_Mod_walkFrom_13 : decode b_Mod_walkFrom 13 = .ok (.iconst 0, 1) := by decide +kernel
theorem d_Mod_walkFrom_14 : decode b_Mod_walkFrom 14 = .ok (.iconst 0, 1) := by decide +kernel
theorem d_Mod_walkFrom_15 : decode b_Mod_walkFrom 15 = .ok (.iastore, 1) := by decide +kernel
theorem d_Mod_walkFrom_16 : decode b_Mod_walkFrom 16 = .ok (.aload_n 0, 1) := by decide +kernel
theorem d_Mod_walkFrom_17 : decode b_Mod_walkFrom 17 = .ok (.getfield 41, 3) := by decide +kernel
theorem d_Mod_walkFrom_20 : decode b_Mod_walkFrom 20 = .ok (.iload_n 1, 1) := by decide +kernel
theorem d_Mod_walkFrom_21 : decode b_Mod_walkFrom 21 = .ok (.iconst 0, 1) := by decide +kernel
theorem d_Mod_walkFrom_22 : decode b_Mod_walkFrom 22 = .ok (.iastore, 1) := by decide +kernel
theorem d_Mod_walkFrom_23 : decode b_Mod_walkFrom 23 = .ok (.aload_n 0, 1) := by decide +kernel
theorem d_Mod_walkFrom_24 : decode b_Mod_walkFrom 24 = .ok (.getfield 44, 3) := by decide +kernel
theorem d_Mod_walkFrom_27 : decode b_Mod_walkFrom 27 = .ok (.iload_n 1, 1) := by decide +kernel
theorem d_Mod_walkFrom_28 : decode b_Mod_walkFrom 28 = .ok (.iconst (-1), 1) := by decide +kernel
theorem d_Mod_walkFrom_29 : decode b_Mod_walkFrom 29 = .ok (.iastore, 1) := by decide +kernel
theorem d_Mod_walkFrom_30 : decode b_Mod_walkFrom 30 = .ok (.iload_n 2, 1) := by decide +kernel
theorem d_Mod_walkFrom_31 : decode b_Mod_walkFrom 31 = .ok (.ifCond .le 204, 3) := by decide +kernel
