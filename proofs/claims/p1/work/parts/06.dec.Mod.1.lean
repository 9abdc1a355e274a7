theorem d_Mod_init_0 : decode b_Mod_init 0 = .ok (.aload_n 0, 1) := by decide +kernel
theorem d_Mod_init_1 : decode b_Mod_init 1 = .ok (.invokespecial 1, 3) := by decide +kernel
theorem d_Mod_init_4 : decode b_Mod_init 4 = .ok (.aload_n 0, 1) := by decide +kernel
theorem d_Mod_init_5 : decode b_Mod_init 5 = .ok (.bipush 10, 2) := by decide +kernel
theorem d_Mod_init_7 : decode b_Mod_init 7 = .ok (.newarray .boolean, 2) := by decide +kernel
theorem d_Mod_init_9 : decode b_Mod_init 9 = .ok (.putfield 7, 3) := by decide +kernel
theorem d_Mod_init_12 : decode b_Mod_init 12 = .ok (.aload_n 0, 1) := by decide +kernel
theorem d_Mod_init_13 : decode b_Mod_init 13 = .ok (.bipush 24, 2) := by decide +kernel
theorem d_Mod_init_15 : decode b_Mod_init 15 = .ok (.newarray .int, 2) := by decide +kernel
theorem d_Mod_init_17 : decode b_Mod_init 17 = .ok (.putfield 13, 3) := by decide +kernel
theorem d_Mod_init_20 : decode b_Mod_init 20 = .ok (.aload_n 0, 1) := by decide +kernel
theorem d_Mod_init_21 : decode b_Mod_init 21 = .ok (.bipush 24, 2) := by decide +kernel
theorem d_Mod_init_23 : decode b_Mod_init 23 = .ok (.newarray .int, 2) := by decide +kernel
theorem d_Mod_init_25 : decode b_Mod_init 25 = .ok (.putfield 17, 3) := by decide +kernel
theorem d_Mod_init_28 : decode b_Mod_init 28 = .ok (.aload_n 0, 1) := by decide +kernel
theorem d_Mod_init_29 : decode b_Mod_init 29 = .ok (.bipush 10, 2) := by decide +kernel
theorem d_Mod_init_31 : decode b_Mod_init 31 = .ok (.newarray .int, 2) := by decide +kernel
theorem d_Mod_init_33 : decode b_Mod_init 33 = .ok (.putfield 20, 3) := by decide +kernel
theorem d_Mod_init_36 : decode b_Mod_init 36 = .ok (.aload_n 0, 1) := by decide +kernel
theorem d_Mod_init_37 : decode b_Mod_init 37 = .ok (.bipush 10, 2) := by decide +kernel
theorem d_Mod_init_39 : decode b_Mod_init 39 = .ok (.newarray .int, 2) := by decide +kernel
theorem d_Mod_init_41 : decode b_Mod_init 41 = .ok (.putfield 23, 3) := by decide +kernel
theorem d_Mod_init_44 : decode b_Mod_init 44 = .ok (.aload_n 0, 1) := by decide +kernel
theorem d_Mod_init_45 : decode b_Mod_init 45 = .ok (.bipush 40, 2) := by decide +kernel
theorem d_Mod_init_47 : decode b_Mod_init 47 = .ok (.newarray .int, 2) := by decide +kernel
theorem d_Mod_init_49 : decode b_Mod_init 49 = .ok (.putfield 26, 3) := by decide +kernel
theorem d_Mod_init_52 : decode b_Mod_init 52 = .ok (.aload_n 0, 1) := by decide +kernel
theorem d_Mod_init_53 : decode b_Mod_init 53 = .ok (.bipush 40, 2) := by decide +kernel
theorem d_Mod_init_55 : decode b_Mod_init 55 = .ok (.newarray .int, 2) := by decide +kernel
theorem d_Mod_init_57 : decode b_Mod_init 57 = .ok (.putfield 29, 3) := by decide +kernel
theorem d_Mod_init_60 : decode b_Mod_init 60 = .ok (.aload_n 0, 1) := by decide +kernel
theorem d_Mod_init_61 : decode b_Mod_init 61 = .ok (.bipush 40, 2) := by decide +kernel
theorem d_Mod_init_63 : decode b_Mod_init 63 = .ok (.newarray .int, 2) := by decide +kernel
theorem d_Mod_init_65 : decode b_Mod_init 65 = .ok (.putfield 32, 3) := by decide +kernel
theorem d_Mod_init_68 : decode b_Mod_init 68 = .ok (.aload_n 0, 1) := by decide +kernel
theorem d_Mod_init_69 : decode b_Mod_init 69 = .ok (.bipush 40, 2) := by decide +kernel
theorem d_Mod_init_71 : decode b_Mod_init 71 = .ok (.newarray .int, 2) := by decide +kernel
theorem d_Mod_init_73 : decode b_Mod_init 73 = .ok (.putfield 35, 3) := by decide +kernel
theorem d_Mod_init_76 : decode b_Mod_init 76 = .ok (.aload_n 0, 1) := by decide +kernel
theorem d_Mod_init_77 : decode b_Mod_init 77 = .ok (.bipush 40, 2) := by decide +kernel
theorem d_Mod_init_79 : decode b_Mod_init 79 = .ok (.newarray .int, 2) := by decide +kernel
theorem d_Mod_init_81 : decode b_Mod_init 81 = .ok (.putfield 38, 3) := by decide +kernel
theorem d_Mod_init_84 : decode b_Mod_init 84 = .ok (.aload_n 0, 1) := by decide +kernel
theorem d_Mod_init_85 : decode b_Mod_init 85 = .ok (.bipush 11, 2) := by decide +kernel
theorem d_Mod_init_87 : decode b_Mod_init 87 = .ok (.newarray .int, 2) := by decide +kernel
theorem d_Mod_init_89 : decode b_Mod_init 89 = .ok (.putfield 41, 3) := by decide +kernel
theorem d_Mod_init_92 : decode b_Mod_init 92 = .ok (.aload_n 0, 1) := by decide +kernel
theorem d_Mod_init_93 : decode b_Mod_init 93 = .ok (.bipush 11, 2) := by decide +kernel
theorem d_Mod_init_95 : decode b_Mod_init 95 = .ok (.newarray .int, 2) := by decide +kernel
theorem d_Mod_init_97 : decode b_Mod_init 97 = .ok (.putfield 44, 3) := by decide +kernel
theorem d_Mod_init_100 : decode b_Mod_init 100 = .ok (.aload_n 0, 1) := by decide +kernel
theorem d_Mod_init_101 : decode b_Mod_init 101 = .ok (.bipush 11, 2) := by decide +kernel
theorem d_Mod_init_103 : decode b_Mod_init 103 = .ok (.newarray .int, 2) := by decide +kernel
theorem d_Mod_init_105 : decode b_Mod_init 105 = .ok (.putfield 47, 3) := by decide +kernel
theorem d_Mod_init_108 : decode b_Mod_init 108 = .ok (.aload_n 0, 1) := by decide +kernel
theorem d_Mod_init_109 : decode b_Mod_init 109 = .ok (.bipush 11, 2) := by decide +kernel
theorem d_Mod_init_111 : decode b_Mod_init 111 = .ok (.newarray .int, 2) := by decide +kernel
theorem d_Mod_init_113 : decode b_Mod_init 113 = .ok (.putfield 50, 3) := by decide +kernel
theorem d_Mod_init_116 : decode b_Mod_init 116 = .ok (.aload_n 0, 1) := by decide +kernel
theorem d_Mod_init_117 : decode b_Mod_init 117 = .ok (.bipush 40, 2) := by decide +kernel
theorem d_Mod_init_119 : decode b_Mod_init 119 = .ok (.newarray .int, 2) := by decide +kernel
theorem d_Mod_init_121 : decode b_Mod_init 121 = .ok (.putfield 53, 3) := by decide +kernel
theorem d_Mod_init_124 : decode b_Mod_init 124 = .ok (.aload_n 0, 1) := by decide +kernel
theorem d_Mod_init_125 : decode b_Mod_init 125 = .ok (.bipush 40, 2) := by decide +kernel
theorem d_Mod_init_127 : decode b_Mod_init 127 = .ok (.newarray .int, 2) := by decide +kernel
theorem d_Mod_init_129 : decode b_Mod_init 129 = .ok (.putfield 56, 3) := by decide +kernel
theorem d_Mod_init_132 : decode b_Mod_init 132 = .ok (.aload_n 0, 1) := by decide +kernel
theorem d_Mod_init_133 : decode b_Mod_init 133 = .ok (.bipush 10, 2) := by decide +kernel
theorem d_Mod_init_135 : decode b_Mod_init 135 = .ok (.newarray .int, 2) := by decide +kernel
theorem d_Mod_init_137 : decode b_Mod_init 137 = .ok (.putfield 59, 3) := by decide +kernel
theorem d_Mod_init_140 : decode b_Mod_init 140 = .ok (.aload_n 0, 1) := by decide +kernel
theorem d_Mod_init_141 : decode b_Mod_init 141 = .ok (.bipush 10, 2) := by decide +kernel
theorem d_Mod_init_143 : decode b_Mod_init 143 = .ok (.newarray .int, 2) := by decide +kernel
theorem d_Mod_init_145 : decode b_Mod_init 145 = .ok (.putfield 62, 3) := by decide +kernel
theorem d_Mod_init_148 : decode b_Mod_init 148 = .ok (.aload_n 0, 1) := by decide +kernel
theorem d_Mod_init_149 : decode b_Mod_init 149 = .ok (.bipush 11, 2) := by decide +kernel
theorem d_Mod_init_151 : decode b_Mod_init 151 = .ok (.newarray .int, 2) := by decide +kernel
theorem d_Mod_init_153 : decode b_Mod_init 153 = .ok (.putfield 65, 3) := by decide +kernel
theorem d_Mod_init_156 : decode b_Mod_init 156 = .ok (.iconst 0, 1) := by decide +kernel
theorem d_Mod_init_157 : decode b_Mod_init 157 = .ok (.istore_n 1, 1) := by decide +kernel
theorem d_Mod_init_158 : decode b_Mod_init 158 = .ok (.iload_n 1, 1) := by decide +kernel
theorem d_Mod_init_159 : decode b_Mod_init 159 = .ok (.bipush 24, 2) := by decide +kernel
theorem d_Mod_init_161 : decode b_Mod_init 161 = .ok (.if_icmp .ge 16, 3) := by decide +kernel
theorem d_Mod_init_164 : decode b_Mod_init 164 = .ok (.aload_n 0, 1) := by decide +kernel
theorem d_Mod_init_165 : decode b_Mod_init 165 = .ok (.getfield 13, 3) := by decide +kernel
theorem d_Mod_init_168 : decode b_Mod_init 168 = .ok (.iload_n 1, 1) := by decide +kernel
theorem d_Mod_init_169 : decode b_Mod_init 169 = .ok (.iconst (-1), 1) := by decide +kernel
theorem d_Mod_init_170 : decode b_Mod_init 170 = .ok (.iastore, 1) := by decide +kernel
theorem d_Mod_init_171 : decode b_Mod_init 171 = .ok (.iinc 1 1, 3) := by decide +kernel
theorem d_Mod_init_174 : decode b_Mod_init 174 = .ok (.goto (-16), 3) := by decide +kernel
theorem d_Mod_init_177 : decode b_Mod_init 177 = .ok (.return_, 1) := by decide +kernel
theorem d_Mod_around_0 : decode b_Mod_around 0 = .ok (.aload_n 0, 1) := by decide +kernel
theorem d_Mod_around_1 : decode b_Mod_around 1 = .ok (.iload_n 1, 1) := by decide +kernel
theorem d_Mod_around_2 : decode b_Mod_around 2 = .ok (.aload_n 0, 1) := by decide +kernel
theorem d_Mod_around_3 : decode b_Mod_around 3 = .ok (.invokevirtual 100, 3) := by decide +kernel
theorem d_Mod_around_6 : decode b_Mod_around 6 = .ok (.iconst (-1), 1) := by decide +kernel
theorem d_Mod_around_7 : decode b_Mod_around 7 = .ok (.ixor, 1) := by decide +kernel
theorem d_Mod_around_8 : decode b_Mod_around 8 = .ok (.iand, 1) := by decide +kernel
theorem d_Mod_around_9 : decode b_Mod_around 9 = .ok (.ifCond .eq 7, 3) := by decide +kernel
theorem d_Mod_around_12 : decode b_Mod_around 12 = .ok (.iconst 1, 1) := by decide +kernel
theorem d_Mod_around_13 : decode b_Mod_around 13 = .ok (.goto 4, 3) := by decide +kernel
theorem d_Mod_around_16 : decode b_Mod_around 16 = .ok (.iconst 0, 1) := by decide +kernel
theorem d_Mod_around_17 : decode b_Mod_around 17 = .ok (.iconst 0, 1) := by decide +kernel
theorem d_Mod_around_18 : decode b_Mod_around 18 = .ok (.iconst 0, 1) := by decide +kernel
theorem d_Mod_around_19 : decode b_Mod_around 19 = .ok (.invokevirtual 79, 3) := by decide +kernel
theorem d_Mod_around_22 : decode b_Mod_around 22 = .ok (.ifCond .eq 5, 3) := by decide +kernel
theorem d_Mod_around_25 : decode b_Mod_around 25 = .ok (.iconst 0, 1) := by decide +kernel
theorem d_Mod_around_26 : decode b_Mod_around 26 = .ok (.ireturn, 1) := by decide +kernel
theorem d_Mod_around_27 : decode b_Mod_around 27 = .ok (.aload_n 0, 1) := by decide +kernel
theorem d_Mod_around_28 : decode b_Mod_around 28 = .ok (.aload_n 0, 1) := by decide +kernel
theorem d_Mod_around_29 : decode b_Mod_around 29 = .ok (.invokevirtual 103, 3) := by decide +kernel
theorem d_Mod_around_32 : decode b_Mod_around 32 = .ok (.invokevirtual 144, 3) := by decide +kernel
theorem d_Mod_around_35 : decode b_Mod_around 35 = .ok (.iconst 0, 1) := by decide +kernel
theorem d_Mod_around_36 : decode b_Mod_around 36 = .ok (.istore_n 2, 1) := by decide +kernel
theorem d_Mod_around_37 : decode b_Mod_around 37 = .ok (.iload_n 2, 1) := by decide +kernel
theorem d_Mod_around_38 : decode b_Mod_around 38 = .ok (.bipush 10, 2) := by decide +kernel
theorem d_Mod_around_40 : decode b_Mod_around 40 = .ok (.if_icmp .ge 25, 3) := by decide +kernel
theorem d_Mod_around_43 : decode b_Mod_around 43 = .ok (.iload_n 1, 1) := by decide +kernel
theorem d_Mod_around_44 : decode b_Mod_around 44 = .ok (.iload_n 2, 1) := by decide +kernel
theorem d_Mod_around_45 : decode b_Mod_around 45 = .ok (.ishr, 1) := by decide +kernel
theorem d_Mod_around_46 : decode b_Mod_around 46 = .ok (.iconst 1, 1) := by decide +kernel
theorem d_Mod_around_47 : decode b_Mod_around 47 = .ok (.iand, 1) := by decide +kernel
theorem d_Mod_around_48 : decode b_Mod_around 48 = .ok (.iconst 1, 1) := by decide +kernel
theorem d_Mod_around_49 : decode b_Mod_around 49 = .ok (.if_icmp .ne 10, 3) := by decide +kernel
theorem d_Mod_around_59 : decode b_Mod_around 59 = .ok (.iinc 2 1, 3) := by decide +kernel
theorem d_Mod_around_62 : decode b_Mod_around 62 = .ok (.goto (-25), 3) := by decide +kernel
theorem d_Mod_around_65 : decode b_Mod_around 65 = .ok (.aload_n 0, 1) := by decide +kernel
theorem d_Mod_around_66 : decode b_Mod_around 66 = .ok (.invokevirtual 147, 3) := by decide +kernel
theorem d_Mod_around_69 : decode b_Mod_around 69 = .ok (.ireturn, 1) := by decide +kernel
theorem d_Mod_at_0 : decode b_Mod_at 0 = .ok (.aload_n 0, 1) := by decide +kernel
theorem d_Mod_at_1 : decode b_Mod_at 1 = .ok (.iload_n 1, 1) := by decide +kernel
theorem d_Mod_at_2 : decode b_Mod_at 2 = .ok (.invokestatic 72, 3) := by decide +kernel
theorem d_Mod_at_5 : decode b_Mod_at 5 = .ok (.ifCond .eq 12, 3) := by decide +kernel
theorem d_Mod_at_8 : decode b_Mod_at 8 = .ok (.iload_n 2, 1) := by decide +kernel
theorem d_Mod_at_9 : decode b_Mod_at 9 = .ok (.ifCond .lt 8, 3) := by decide +kernel
theorem d_Mod_at_12 : decode b_Mod_at 12 = .ok (.iload_n 2, 1) := by decide +kernel
theorem d_Mod_at_13 : decode b_Mod_at 13 = .ok (.iconst 1, 1) := by decide +kernel
theorem d_Mod_at_14 : decode b_Mod_at 14 = .ok (.if_icmp .le 7, 3) := by decide +kernel
theorem d_Mod_at_17 : decode b_Mod_at 17 = .ok (.iconst 1, 1) := by decide +kernel
theorem d_Mod_at_18 : decode b_Mod_at 18 = .ok (.goto 4, 3) := by decide +kernel
theorem d_Mod_at_21 : decode b_Mod_at 21 = .ok (.iconst 0, 1) := by decide +kernel
theorem d_Mod_at_22 : decode b_Mod_at 22 = .ok (.iconst 0, 1) := by decide +kernel
theorem d_Mod_at_23 : decode b_Mod_at 23 = .ok (.iconst 0, 1) := by decide +kernel
theorem d_Mod_at_24 : decode b_Mod_at 24 = .ok (.invokevirtual 79, 3) := by decide +kernel
theorem d_Mod_at_27 : decode b_Mod_at 27 = .ok (.ifCond .eq 5, 3) := by decide +kernel
theorem d_Mod_at_30 : decode b_Mod_at 30 = .ok (.iconst 0, 1) := by decide +kernel
theorem d_Mod_at_31 : decode b_Mod_at 31 = .ok (.ireturn, 1) := by decide +kernel
theorem d_Mod_at_32 : decode b_Mod_at 32 = .ok (.iload_n 2, 1) := by decide +kernel
theorem d_Mod_at_33 : decode b_Mod_at 33 = .ok (.ifCond .ne 12, 3) := by decide +kernel
theorem d_Mod_at_36 : decode b_Mod_at 36 = .ok (.aload_n 0, 1) := by decide +kernel
theorem d_Mod_at_37 : decode b_Mod_at 37 = .ok (.getfield 20, 3) := by decide +kernel
theorem d_Mod_at_40 : decode b_Mod_at 40 = .ok (.iload_n 1, 1) := by decide +kernel
theorem d_Mod_at_41 : decode b_Mod_at 41 = .ok (.iaload, 1) := by decide +kernel
theorem d_Mod_at_42 : decode b_Mod_at 42 = .ok (.goto 9, 3) := by decide +kernel
theorem d_Mod_at_45 : decode b_Mod_at 45 = .ok (.aload_n 0, 1) := by decide +kernel
theorem d_Mod_at_46 : decode b_Mod_at 46 = .ok (.getfield 23, 3) := by decide +kernel
theorem d_Mod_at_49 : decode b_Mod_at 49 = .ok (.iload_n 1, 1) := by decide +kernel
theorem d_Mod_at_50 : decode b_Mod_at 50 = .ok (.iaload, 1) := by decide +kernel
theorem d_Mod_at_51 : decode b_Mod_at 51 = .ok (.ireturn, 1) := by decide +kernel
theorem d_Mod_box_0 : decode b_Mod_box 0 = .ok (.aload_n 0, 1) := by decide +kernel
theorem d_Mod_box_1 : decode b_Mod_box 1 = .ok (.iconst 0, 1) := by decide +kernel
theorem d_Mod_box_2 : decode b_Mod_box 2 = .ok (.putfield 68, 3) := by decide +kernel
theorem d_Mod_box_5 : decode b_Mod_box 5 = .ok (.bipush 31, 2) := by decide +kernel
theorem d_Mod_box_7 : decode b_Mod_box 7 = .ok (.istore_n 1, 1) := by decide +kernel
theorem d_Mod_box_8 : decode b_Mod_box 8 = .ok (.iconst (-1), 1) := by decide +kernel
theorem d_Mod_box_9 : decode b_Mod_box 9 = .ok (.istore_n 2, 1) := by decide +kernel
theorem d_Mod_box_10 : decode b_Mod_box 10 = .ok (.bipush 31, 2) := by decide +kernel
theorem d_Mod_box_12 : decode b_Mod_box 12 = .ok (.istore_n 3, 1) := by decide +kernel
theorem d_Mod_box_13 : decode b_Mod_box 13 = .ok (.iconst (-1), 1) := by decide +kernel
theorem d_Mod_box_14 : decode b_Mod_box 14 = .ok (.istore 4, 2) := by decide +kernel
theorem d_Mod_box_16 : decode b_Mod_box 16 = .ok (.iconst 0, 1) := by decide +kernel
theorem d_Mod_box_17 : decode b_Mod_box 17 = .ok (.istore 5, 2) := by decide +kernel
theorem d_Mod_box_19 : decode b_Mod_box 19 = .ok (.iload 5, 2) := by decide +kernel
theorem d_Mod_box_21 : decode b_Mod_box 21 = .ok (.bipush 10, 2) := by decide +kernel
theorem d_Mod_box_23 : decode b_Mod_box 23 = .ok (.if_icmp .ge 144, 3) := by decide +kernel
theorem d_Mod_box_26 : decode b_Mod_box 26 = .ok (.aload_n 0, 1) := by decide +kernel
theorem d_Mod_box_27 : decode b_Mod_box 27 = .ok (.getfield 7, 3) := by decide +kernel
theorem d_Mod_box_30 : decode b_Mod_box 30 = .ok (.iload 5, 2) := by decide +kernel
theorem d_Mod_box_32 : decode b_Mod_box 32 = .ok (.baload, 1) := by decide +kernel
theorem d_Mod_box_33 : decode b_Mod_box 33 = .ok (.ifCond .eq 24, 3) := by decide +kernel
theorem d_Mod_box_57 : decode b_Mod_box 57 = .ok (.iload_n 1, 1) := by decide +kernel
theorem d_Mod_box_58 : decode b_Mod_box 58 = .ok (.istore_n 1, 1) := by decide +kernel
theorem d_Mod_box_59 : decode b_Mod_box 59 = .ok (.aload_n 0, 1) := by decide +kernel
theorem d_Mod_box_60 : decode b_Mod_box 60 = .ok (.getfield 7, 3) := by decide +kernel
theorem d_Mod_box_63 : decode b_Mod_box 63 = .ok (.iload 5, 2) := by decide +kernel
theorem d_Mod_box_65 : decode b_Mod_box 65 = .ok (.baload, 1) := by decide +kernel
theorem d_Mod_box_66 : decode b_Mod_box 66 = .ok (.ifCond .eq 24, 3) := by decide +kernel
theorem d_Mod_box_90 : decode b_Mod_box 90 = .ok (.iload_n 2, 1) := by decide +kernel
theorem d_Mod_box_91 : decode b_Mod_box 91 = .ok (.istore_n 2, 1) := by decide +kernel
theorem d_Mod_box_92 : decode b_Mod_box 92 = .ok (.aload_n 0, 1) := by decide +kernel
theorem d_Mod_box_93 : decode b_Mod_box 93 = .ok (.getfield 7, 3) := by decide +kernel
theorem d_Mod_box_96 : decode b_Mod_box 96 = .ok (.iload 5, 2) := by decide +kernel
theorem d_Mod_box_98 : decode b_Mod_box 98 = .ok (.baload, 1) := by decide +kernel
theorem d_Mod_box_99 : decode b_Mod_box 99 = .ok (.ifCond .eq 24, 3) := by decide +kernel
theorem d_Mod_box_123 : decode b_Mod_box 123 = .ok (.iload_n 3, 1) := by decide +kernel
theorem d_Mod_box_124 : decode b_Mod_box 124 = .ok (.istore_n 3, 1) := by decide +kernel
theorem d_Mod_box_125 : decode b_Mod_box 125 = .ok (.aload_n 0, 1) := by decide +kernel
theorem d_Mod_box_126 : decode b_Mod_box 126 = .ok (.getfield 7, 3) := by decide +kernel
theorem d_Mod_box_129 : decode b_Mod_box 129 = .ok (.iload 5, 2) := by decide +kernel
theorem d_Mod_box_131 : decode b_Mod_box 131 = .ok (.baload, 1) := by decide +kernel
theorem d_Mod_box_132 : decode b_Mod_box 132 = .ok (.ifCond .eq 25, 3) := by decide +kernel
theorem d_Mod_box_157 : decode b_Mod_box 157 = .ok (.iload 4, 2) := by decide +kernel
theorem d_Mod_box_159 : decode b_Mod_box 159 = .ok (.istore 4, 2) := by decide +kernel
theorem d_Mod_box_161 : decode b_Mod_box 161 = .ok (.iinc 5 1, 3) := by decide +kernel
theorem d_Mod_box_164 : decode b_Mod_box 164 = .ok (.goto (-145), 3) := by decide +kernel
theorem d_Mod_box_167 : decode b_Mod_box 167 = .ok (.iload_n 2, 1) := by decide +kernel
theorem d_Mod_box_168 : decode b_Mod_box 168 = .ok (.ifCond .ge 7, 3) := by decide +kernel
theorem d_Mod_box_171 : decode b_Mod_box 171 = .ok (.iconst 0, 1) := by decide +kernel
theorem d_Mod_box_172 : decode b_Mod_box 172 = .ok (.goto 15, 3) := by decide +kernel
theorem d_Mod_box_187 : decode b_Mod_box 187 = .ok (.ireturn, 1) := by decide +kernel
theorem d_Mod_bridge_0 : decode b_Mod_bridge 0 = .ok (.aload_n 0, 1) := by decide +kernel
theorem d_Mod_bridge_1 : decode b_Mod_bridge 1 = .ok (.aload_n 0, 1) := by decide +kernel
theorem d_Mod_bridge_2 : decode b_Mod_bridge 2 = .ok (.iload_n 1, 1) := by decide +kernel
theorem d_Mod_bridge_3 : decode b_Mod_bridge 3 = .ok (.invokevirtual 94, 3) := by decide +kernel
theorem d_Mod_bridge_6 : decode b_Mod_bridge 6 = .ok (.ifCond .ne 7, 3) := by decide +kernel
theorem d_Mod_bridge_9 : decode b_Mod_bridge 9 = .ok (.iconst 1, 1) := by decide +kernel
theorem d_Mod_bridge_10 : decode b_Mod_bridge 10 = .ok (.goto 4, 3) := by decide +kernel
theorem d_Mod_bridge_14 : decode b_Mod_bridge 14 = .ok (.iconst 0, 1) := by decide +kernel
theorem d_Mod_bridge_15 : decode b_Mod_bridge 15 = .ok (.iconst 0, 1) := by decide +kernel
theorem d_Mod_bridge_16 : decode b_Mod_bridge 16 = .ok (.invokevirtual 79, 3) := by decide +kernel
theorem d_Mod_bridge_19 : decode b_Mod_bridge 19 = .ok (.ifCond .ne 22, 3) := by decide +kernel
theorem d_Mod_bridge_41 : decode b_Mod_bridge 41 = .ok (.iconst 0, 1) := by decide +kernel
theorem d_Mod_bridge_42 : decode b_Mod_bridge 42 = .ok (.ireturn, 1) := by decide +kernel
theorem d_Mod_canColour_0 : decode b_Mod_canColour 0 = .ok (.iconst 0, 1) := by decide +kernel
theorem d_Mod_canColour_1 : decode b_Mod_canColour 1 = .ok (.istore_n 2, 1) := by decide +kernel
theorem d_Mod_canColour_2 : decode b_Mod_canColour 2 = .ok (.iconst 0, 1) := by decide +kernel
theorem d_Mod_canColour_3 : decode b_Mod_canColour 3 = .ok (.istore_n 3, 1) := by decide +kernel
theorem d_Mod_canColour_4 : decode b_Mod_canColour 4 = .ok (.iload_n 3, 1) := by decide +kernel
theorem d_Mod_canColour_5 : decode b_Mod_canColour 5 = .ok (.bipush 10, 2) := by decide +kernel
theorem d_Mod_canColour_7 : decode b_Mod_canColour 7 = .ok (.if_icmp .ge 40, 3) := by decide +kernel
theorem d_Mod_canColour_10 : decode b_Mod_canColour 10 = .ok (.aload_n 0, 1) := by decide +kernel
theorem d_Mod_canColour_11 : decode b_Mod_canColour 11 = .ok (.getfield 62, 3) := by decide +kernel
theorem d_Mod_canColour_14 : decode b_Mod_canColour 14 = .ok (.iload_n 3, 1) := by decide +kernel
theorem d_Mod_canColour_15 : decode b_Mod_canColour 15 = .ok (.iconst (-1), 1) := by decide +kernel
theorem d_Mod_canColour_16 : decode b_Mod_canColour 16 = .ok (.iastore, 1) := by decide +kernel
theorem d_Mod_canColour_17 : decode b_Mod_canColour 17 = .ok (.aload_n 0, 1) := by decide +kernel
theorem d_Mod_canColour_18 : decode b_Mod_canColour 18 = .ok (.getfield 65, 3) := by decide +kernel
theorem d_Mod_canColour_21 : decode b_Mod_canColour 21 = .ok (.iload_n 2, 1) := by decide +kernel
theorem d_Mod_canColour_22 : decode b_Mod_canColour 22 = .ok (.iload_n 3, 1) := by decide +kernel
theorem d_Mod_canColour_23 : decode b_Mod_canColour 23 = .ok (.iastore, 1) := by decide +kernel
theorem d_Mod_canColour_24 : decode b_Mod_canColour 24 = .ok (.aload_n 0, 1) := by decide +kernel
theorem d_Mod_canColour_25 : decode b_Mod_canColour 25 = .ok (.getfield 7, 3) := by decide +kernel
theorem d_Mod_canColour_28 : decode b_Mod_canColour 28 = .ok (.iload_n 3, 1) := by decide +kernel
theorem d_Mod_canColour_29 : decode b_Mod_canColour 29 = .ok (.baload, 1) := by decide +kernel
theorem d_Mod_canColour_30 : decode b_Mod_canColour 30 = .ok (.ifCond .eq 9, 3) := by decide +kernel
theorem d_Mod_canColour_39 : decode b_Mod_canColour 39 = .ok (.iload_n 2, 1) := by decide +kernel
theorem d_Mod_canColour_40 : decode b_Mod_canColour 40 = .ok (.istore_n 2, 1) := by decide +kernel
theorem d_Mod_canColour_41 : decode b_Mod_canColour 41 = .ok (.iinc 3 1, 3) := by decide +kernel
theorem d_Mod_canColour_44 : decode b_Mod_canColour 44 = .ok (.goto (-40), 3) := by decide +kernel
theorem d_Mod_canColour_47 : decode b_Mod_canColour 47 = .ok (.iconst 0, 1) := by decide +kernel
