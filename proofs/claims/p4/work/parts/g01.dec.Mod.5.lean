theorem d_Mod_hinge_23 : decode b_Mod_hinge 23 = .ok (.iload_n 1, 1) := by decide +kernel
theorem d_Mod_hinge_24 : decode b_Mod_hinge 24 = .ok (.iconst (-1), 1) := by decide +kernel
theorem d_Mod_hinge_25 : decode b_Mod_hinge 25 = .ok (.invokevirtual 170, 3) := by decide +kernel
theorem d_Mod_hinge_28 : decode b_Mod_hinge 28 = .ok (.aload_n 0, 1) := by decide +kernel
theorem d_Mod_hinge_29 : decode b_Mod_hinge 29 = .ok (.iconst (-1), 1) := by decide +kernel
theorem d_Mod_hinge_30 : decode b_Mod_hinge 30 = .ok (.iconst (-1), 1) := by decide +kernel
theorem d_Mod_hinge_31 : decode b_Mod_hinge 31 = .ok (.invokevirtual 170, 3) := by decide +kernel
theorem d_Mod_hinge_34 : decode b_Mod_hinge 34 = .ok (.if_icmp .le 7, 3) := by decide +kernel
theorem d_Mod_hinge_37 : decode b_Mod_hinge 37 = .ok (.iconst 1, 1) := by decide +kernel
theorem d_Mod_hinge_38 : decode b_Mod_hinge 38 = .ok (.goto 4, 3) := by decide +kernel
theorem d_Mod_hinge_41 : decode b_Mod_hinge 41 = .ok (.iconst 0, 1) := by decide +kernel
theorem d_Mod_hinge_42 : decode b_Mod_hinge 42 = .ok (.ireturn, 1) := by decide +kernel
theorem d_Mod_isBelow_0 : decode b_Mod_isBelow 0 = .ok (.iload_n 1, 1) := by decide +kernel
theorem d_Mod_isBelow_1 : decode b_Mod_isBelow 1 = .ok (.istore_n 3, 1) := by decide +kernel
theorem d_Mod_isBelow_2 : decode b_Mod_isBelow 2 = .ok (.iload_n 3, 1) := by decide +kernel
theorem d_Mod_isBelow_3 : decode b_Mod_isBelow 3 = .ok (.ifCond .lt 28, 3) := by decide +kernel
theorem d_Mod_isBelow_6 : decode b_Mod_isBelow 6 = .ok (.aload_n 0, 1) := by decide +kernel
theorem d_Mod_isBelow_7 : decode b_Mod_isBelow 7 = .ok (.getfield 41, 3) := by decide +kernel
theorem d_Mod_isBelow_10 : decode b_Mod_isBelow 10 = .ok (.iload_n 3, 1) := by decide +kernel
theorem d_Mod_isBelow_11 : decode b_Mod_isBelow 11 = .ok (.iaload, 1) := by decide +kernel
theorem d_Mod_isBelow_12 : decode b_Mod_isBelow 12 = .ok (.aload_n 0, 1) := by decide +kernel
theorem d_Mod_isBelow_13 : decode b_Mod_isBelow 13 = .ok (.getfield 41, 3) := by decide +kernel
theorem d_Mod_isBelow_16 : decode b_Mod_isBelow 16 = .ok (.iload_n 2, 1) := by decide +kernel
theorem d_Mod_isBelow_17 : decode b_Mod_isBelow 17 = .ok (.iaload, 1) := by decide +kernel
theorem d_Mod_isBelow_18 : decode b_Mod_isBelow 18 = .ok (.if_icmp .le 13, 3) := by decide +kernel
theorem d_Mod_isBelow_21 : decode b_Mod_isBelow 21 = .ok (.aload_n 0, 1) := by decide +kernel
theorem d_Mod_isBelow_22 : decode b_Mod_isBelow 22 = .ok (.getfield 44, 3) := by decide +kernel
theorem d_Mod_isBelow_25 : decode b_Mod_isBelow 25 = .ok (.iload_n 3, 1) := by decide +kernel
theorem d_Mod_isBelow_26 : decode b_Mod_isBelow 26 = .ok (.iaload, 1) := by decide +kernel
theorem d_Mod_isBelow_27 : decode b_Mod_isBelow 27 = .ok (.istore_n 3, 1) := by decide +kernel
theorem d_Mod_isBelow_28 : decode b_Mod_isBelow 28 = .ok (.goto (-26), 3) := by decide +kernel
theorem d_Mod_isBelow_31 : decode b_Mod_isBelow 31 = .ok (.iload_n 3, 1) := by decide +kernel
theorem d_Mod_isBelow_32 : decode b_Mod_isBelow 32 = .ok (.iload_n 2, 1) := by decide +kernel
theorem d_Mod_isBelow_33 : decode b_Mod_isBelow 33 = .ok (.if_icmp .ne 7, 3) := by decide +kernel
theorem d_Mod_isBelow_36 : decode b_Mod_isBelow 36 = .ok (.iconst 1, 1) := by decide +kernel
theorem d_Mod_isBelow_37 : decode b_Mod_isBelow 37 = .ok (.goto 4, 3) := by decide +kernel
theorem d_Mod_isBelow_40 : decode b_Mod_isBelow 40 = .ok (.iconst 0, 1) := by decide +kernel
theorem d_Mod_isBelow_41 : decode b_Mod_isBelow 41 = .ok (.ireturn, 1) := by decide +kernel
theorem d_Mod_isDrawable_0 : decode b_Mod_isDrawable 0 = .ok (.aload_n 0, 1) := by decide +kernel
theorem d_Mod_isDrawable_1 : decode b_Mod_isDrawable 1 = .ok (.iload_n 1, 1) := by decide +kernel
theorem d_Mod_isDrawable_2 : decode b_Mod_isDrawable 2 = .ok (.invokevirtual 144, 3) := by decide +kernel
theorem d_Mod_isDrawable_5 : decode b_Mod_isDrawable 5 = .ok (.aload_n 0, 1) := by decide +kernel
theorem d_Mod_isDrawable_6 : decode b_Mod_isDrawable 6 = .ok (.invokevirtual 147, 3) := by decide +kernel
theorem d_Mod_isDrawable_9 : decode b_Mod_isDrawable 9 = .ok (.ireturn, 1) := by decide +kernel
theorem d_Mod_isFlat_0 : decode b_Mod_isFlat 0 = .ok (.aload_n 0, 1) := by decide +kernel
theorem d_Mod_isFlat_1 : decode b_Mod_isFlat 1 = .ok (.invokevirtual 138, 3) := by decide +kernel
theorem d_Mod_isFlat_4 : decode b_Mod_isFlat 4 = .ok (.iconst 1, 1) := by decide +kernel
theorem d_Mod_isFlat_5 : decode b_Mod_isFlat 5 = .ok (.istore_n 1, 1) := by decide +kernel
theorem d_Mod_isFlat_6 : decode b_Mod_isFlat 6 = .ok (.iconst 0, 1) := by decide +kernel
theorem d_Mod_isFlat_7 : decode b_Mod_isFlat 7 = .ok (.istore_n 2, 1) := by decide +kernel
theorem d_Mod_isFlat_8 : decode b_Mod_isFlat 8 = .ok (.iload_n 2, 1) := by decide +kernel
theorem d_Mod_isFlat_9 : decode b_Mod_isFlat 9 = .ok (.aload_n 0, 1) := by decide +kernel
theorem d_Mod_isFlat_10 : decode b_Mod_isFlat 10 = .ok (.getfield 106, 3) := by decide +kernel
theorem d_Mod_isFlat_13 : decode b_Mod_isFlat 13 = .ok (.if_icmp .ge 65, 3) := by decide +kernel
theorem d_Mod_isFlat_16 : decode b_Mod_isFlat 16 = .ok (.iload_n 1, 1) := by decide +kernel
theorem d_Mod_isFlat_17 : decode b_Mod_isFlat 17 = .ok (.ifCond .eq 61, 3) := by decide +kernel
theorem d_Mod_isFlat_20 : decode b_Mod_isFlat 20 = .ok (.iload_n 2, 1) := by decide +kernel
theorem d_Mod_isFlat_21 : decode b_Mod_isFlat 21 = .ok (.iconst 1, 1) := by decide +kernel
theorem d_Mod_isFlat_22 : decode b_Mod_isFlat 22 = .ok (.iadd, 1) := by decide +kernel
theorem d_Mod_isFlat_23 : decode b_Mod_isFlat 23 = .ok (.istore_n 3, 1) := by decide +kernel
theorem d_Mod_isFlat_24 : decode b_Mod_isFlat 24 = .ok (.iload_n 3, 1) := by decide +kernel
theorem d_Mod_isFlat_25 : decode b_Mod_isFlat 25 = .ok (.aload_n 0, 1) := by decide +kernel
theorem d_Mod_isFlat_26 : decode b_Mod_isFlat 26 = .ok (.getfield 106, 3) := by decide +kernel
theorem d_Mod_isFlat_29 : decode b_Mod_isFlat 29 = .ok (.if_icmp .ge 43, 3) := by decide +kernel
theorem d_Mod_isFlat_32 : decode b_Mod_isFlat 32 = .ok (.iload_n 1, 1) := by decide +kernel
theorem d_Mod_isFlat_33 : decode b_Mod_isFlat 33 = .ok (.ifCond .eq 39, 3) := by decide +kernel
theorem d_Mod_isFlat_36 : decode b_Mod_isFlat 36 = .ok (.aload_n 0, 1) := by decide +kernel
theorem d_Mod_isFlat_37 : decode b_Mod_isFlat 37 = .ok (.getfield 32, 3) := by decide +kernel
theorem d_Mod_isFlat_40 : decode b_Mod_isFlat 40 = .ok (.iload_n 2, 1) := by decide +kernel
theorem d_Mod_isFlat_41 : decode b_Mod_isFlat 41 = .ok (.iaload, 1) := by decide +kernel
theorem d_Mod_isFlat_42 : decode b_Mod_isFlat 42 = .ok (.aload_n 0, 1) := by decide +kernel
theorem d_Mod_isFlat_43 : decode b_Mod_isFlat 43 = .ok (.getfield 32, 3) := by decide +kernel
theorem d_Mod_isFlat_46 : decode b_Mod_isFlat 46 = .ok (.iload_n 3, 1) := by decide +kernel
theorem d_Mod_isFlat_47 : decode b_Mod_isFlat 47 = .ok (.iaload, 1) := by decide +kernel
theorem d_Mod_isFlat_48 : decode b_Mod_isFlat 48 = .ok (.if_icmp .ne 12, 3) := by decide +kernel
theorem d_Mod_isFlat_51 : decode b_Mod_isFlat 51 = .ok (.aload_n 0, 1) := by decide +kernel
theorem d_Mod_isFlat_52 : decode b_Mod_isFlat 52 = .ok (.iload_n 2, 1) := by decide +kernel
theorem d_Mod_isFlat_53 : decode b_Mod_isFlat 53 = .ok (.iload_n 3, 1) := by decide +kernel
theorem d_Mod_isFlat_54 : decode b_Mod_isFlat 54 = .ok (.invokevirtual 141, 3) := by decide +kernel
theorem d_Mod_isFlat_57 : decode b_Mod_isFlat 57 = .ok (.ifCond .eq 7, 3) := by decide +kernel
theorem d_Mod_isFlat_60 : decode b_Mod_isFlat 60 = .ok (.iconst 1, 1) := by decide +kernel
theorem d_Mod_isFlat_61 : decode b_Mod_isFlat 61 = .ok (.goto 4, 3) := by decide +kernel
theorem d_Mod_isFlat_64 : decode b_Mod_isFlat 64 = .ok (.iconst 0, 1) := by decide +kernel
theorem d_Mod_isFlat_65 : decode b_Mod_isFlat 65 = .ok (.istore_n 1, 1) := by decide +kernel
theorem d_Mod_isFlat_66 : decode b_Mod_isFlat 66 = .ok (.iinc 3 1, 3) := by decide +kernel
theorem d_Mod_isFlat_69 : decode b_Mod_isFlat 69 = .ok (.goto (-45), 3) := by decide +kernel
theorem d_Mod_isFlat_72 : decode b_Mod_isFlat 72 = .ok (.iinc 2 1, 3) := by decide +kernel
theorem d_Mod_isFlat_75 : decode b_Mod_isFlat 75 = .ok (.goto (-67), 3) := by decide +kernel
theorem d_Mod_isFlat_78 : decode b_Mod_isFlat 78 = .ok (.iload_n 1, 1) := by decide +kernel
theorem d_Mod_isFlat_79 : decode b_Mod_isFlat 79 = .ok (.ireturn, 1) := by decide +kernel
theorem d_Mod_isLine_0 : decode b_Mod_isLine 0 = .ok (.iload_n 1, 1) := by decide +kernel
theorem d_Mod_isLine_1 : decode b_Mod_isLine 1 = .ok (.ifCond .lt 22, 3) := by decide +kernel
theorem d_Mod_isLine_4 : decode b_Mod_isLine 4 = .ok (.iload_n 1, 1) := by decide +kernel
theorem d_Mod_isLine_5 : decode b_Mod_isLine 5 = .ok (.bipush 24, 2) := by decide +kernel
theorem d_Mod_isLine_7 : decode b_Mod_isLine 7 = .ok (.if_icmp .ge 16, 3) := by decide +kernel
theorem d_Mod_isLine_10 : decode b_Mod_isLine 10 = .ok (.aload_n 0, 1) := by decide +kernel
theorem d_Mod_isLine_11 : decode b_Mod_isLine 11 = .ok (.getfield 13, 3) := by decide +kernel
theorem d_Mod_isLine_14 : decode b_Mod_isLine 14 = .ok (.iload_n 1, 1) := by decide +kernel
theorem d_Mod_isLine_15 : decode b_Mod_isLine 15 = .ok (.iaload, 1) := by decide +kernel
theorem d_Mod_isLine_16 : decode b_Mod_isLine 16 = .ok (.ifCond .lt 7, 3) := by decide +kernel
theorem d_Mod_isLine_19 : decode b_Mod_isLine 19 = .ok (.iconst 1, 1) := by decide +kernel
theorem d_Mod_isLine_20 : decode b_Mod_isLine 20 = .ok (.goto 4, 3) := by decide +kernel
theorem d_Mod_isLine_23 : decode b_Mod_isLine 23 = .ok (.iconst 0, 1) := by decide +kernel
theorem d_Mod_isLine_24 : decode b_Mod_isLine 24 = .ok (.ireturn, 1) := by decide +kernel
theorem d_Mod_isNode_0 : decode b_Mod_isNode 0 = .ok (.iload_n 0, 1) := by decide +kernel
theorem d_Mod_isNode_1 : decode b_Mod_isNode 1 = .ok (.ifCond .lt 13, 3) := by decide +kernel
theorem d_Mod_isNode_4 : decode b_Mod_isNode 4 = .ok (.iload_n 0, 1) := by decide +kernel
theorem d_Mod_isNode_5 : decode b_Mod_isNode 5 = .ok (.bipush 10, 2) := by decide +kernel
theorem d_Mod_isNode_7 : decode b_Mod_isNode 7 = .ok (.if_icmp .ge 7, 3) := by decide +kernel
theorem d_Mod_isNode_10 : decode b_Mod_isNode 10 = .ok (.iconst 1, 1) := by decide +kernel
theorem d_Mod_isNode_11 : decode b_Mod_isNode 11 = .ok (.goto 4, 3) := by decide +kernel
theorem d_Mod_isNode_14 : decode b_Mod_isNode 14 = .ok (.iconst 0, 1) := by decide +kernel
theorem d_Mod_isNode_15 : decode b_Mod_isNode 15 = .ok (.ireturn, 1) := by decide +kernel
theorem d_Mod_isOn_0 : decode b_Mod_isOn 0 = .ok (.aload_n 0, 1) := by decide +kernel
theorem d_Mod_isOn_1 : decode b_Mod_isOn 1 = .ok (.getfield 20, 3) := by decide +kernel
theorem d_Mod_isOn_4 : decode b_Mod_isOn 4 = .ok (.iload_n 3, 1) := by decide +kernel
theorem d_Mod_isOn_5 : decode b_Mod_isOn 5 = .ok (.iaload, 1) := by decide +kernel
theorem d_Mod_isOn_6 : decode b_Mod_isOn 6 = .ok (.aload_n 0, 1) := by decide +kernel
theorem d_Mod_isOn_7 : decode b_Mod_isOn 7 = .ok (.getfield 20, 3) := by decide +kernel
theorem d_Mod_isOn_10 : decode b_Mod_isOn 10 = .ok (.iload_n 1, 1) := by decide +kernel
theorem d_Mod_isOn_11 : decode b_Mod_isOn 11 = .ok (.iaload, 1) := by decide +kernel
theorem d_Mod_isOn_12 : decode b_Mod_isOn 12 = .ok (.aload_n 0, 1) := by decide +kernel
theorem d_Mod_isOn_13 : decode b_Mod_isOn 13 = .ok (.getfield 20, 3) := by decide +kernel
theorem d_Mod_isOn_16 : decode b_Mod_isOn 16 = .ok (.iload_n 2, 1) := by decide +kernel
theorem d_Mod_isOn_17 : decode b_Mod_isOn 17 = .ok (.iaload, 1) := by decide +kernel
theorem d_Mod_isOn_18 : decode b_Mod_isOn 18 = .ok (.if_icmp .ge 12, 3) := by decide +kernel
theorem d_Mod_isOn_21 : decode b_Mod_isOn 21 = .ok (.aload_n 0, 1) := by decide +kernel
theorem d_Mod_isOn_22 : decode b_Mod_isOn 22 = .ok (.getfield 20, 3) := by decide +kernel
theorem d_Mod_isOn_25 : decode b_Mod_isOn 25 = .ok (.iload_n 1, 1) := by decide +kernel
theorem d_Mod_isOn_26 : decode b_Mod_isOn 26 = .ok (.iaload, 1) := by decide +kernel
theorem d_Mod_isOn_27 : decode b_Mod_isOn 27 = .ok (.goto 9, 3) := by decide +kernel
theorem d_Mod_isOn_30 : decode b_Mod_isOn 30 = .ok (.aload_n 0, 1) := by decide +kernel
theorem d_Mod_isOn_31 : decode b_Mod_isOn 31 = .ok (.getfield 20, 3) := by decide +kernel
theorem d_Mod_isOn_34 : decode b_Mod_isOn 34 = .ok (.iload_n 2, 1) := by decide +kernel
theorem d_Mod_isOn_35 : decode b_Mod_isOn 35 = .ok (.iaload, 1) := by decide +kernel
theorem d_Mod_isOn_36 : decode b_Mod_isOn 36 = .ok (.if_icmp .lt 46, 3) := by decide +kernel
theorem d_Mod_isOn_39 : decode b_Mod_isOn 39 = .ok (.aload_n 0, 1) := by decide +kernel
theorem d_Mod_isOn_40 : decode b_Mod_isOn 40 = .ok (.getfield 20, 3) := by decide +kernel
theorem d_Mod_isOn_43 : decode b_Mod_isOn 43 = .ok (.iload_n 3, 1) := by decide +kernel
theorem d_Mod_isOn_44 : decode b_Mod_isOn 44 = .ok (.iaload, 1) := by decide +kernel
theorem d_Mod_isOn_45 : decode b_Mod_isOn 45 = .ok (.aload_n 0, 1) := by decide +kernel
theorem d_Mod_isOn_46 : decode b_Mod_isOn 46 = .ok (.getfield 20, 3) := by decide +kernel
theorem d_Mod_isOn_49 : decode b_Mod_isOn 49 = .ok (.iload_n 1, 1) := by decide +kernel
theorem d_Mod_isOn_50 : decode b_Mod_isOn 50 = .ok (.iaload, 1) := by decide +kernel
theorem d_Mod_isOn_51 : decode b_Mod_isOn 51 = .ok (.aload_n 0, 1) := by decide +kernel
theorem d_Mod_isOn_52 : decode b_Mod_isOn 52 = .ok (.getfield 20, 3) := by decide +kernel
theorem d_Mod_isOn_55 : decode b_Mod_isOn 55 = .ok (.iload_n 2, 1) := by decide +kernel
theorem d_Mod_isOn_56 : decode b_Mod_isOn 56 = .ok (.iaload, 1) := by decide +kernel
theorem d_Mod_isOn_57 : decode b_Mod_isOn 57 = .ok (.if_icmp .ge 12, 3) := by decide +kernel
theorem d_Mod_isOn_60 : decode b_Mod_isOn 60 = .ok (.aload_n 0, 1) := by decide +kernel
theorem d_Mod_isOn_61 : decode b_Mod_isOn 61 = .ok (.getfield 20, 3) := by decide +kernel
theorem d_Mod_isOn_64 : decode b_Mod_isOn 64 = .ok (.iload_n 2, 1) := by decide +kernel
theorem d_Mod_isOn_65 : decode b_Mod_isOn 65 = .ok (.iaload, 1) := by decide +kernel
theorem d_Mod_isOn_66 : decode b_Mod_isOn 66 = .ok (.goto 9, 3) := by decide +kernel
theorem d_Mod_isOn_69 : decode b_Mod_isOn 69 = .ok (.aload_n 0, 1) := by decide +kernel
theorem d_Mod_isOn_70 : decode b_Mod_isOn 70 = .ok (.getfield 20, 3) := by decide +kernel
theorem d_Mod_isOn_73 : decode b_Mod_isOn 73 = .ok (.iload_n 1, 1) := by decide +kernel
theorem d_Mod_isOn_74 : decode b_Mod_isOn 74 = .ok (.iaload, 1) := by decide +kernel
theorem d_Mod_isOn_75 : decode b_Mod_isOn 75 = .ok (.if_icmp .gt 7, 3) := by decide +kernel
theorem d_Mod_isOn_78 : decode b_Mod_isOn 78 = .ok (.iconst 1, 1) := by decide +kernel
theorem d_Mod_isOn_79 : decode b_Mod_isOn 79 = .ok (.goto 4, 3) := by decide +kernel
theorem d_Mod_isOn_82 : decode b_Mod_isOn 82 = .ok (.iconst 0, 1) := by decide +kernel
theorem d_Mod_isOn_83 : decode b_Mod_isOn 83 = .ok (.istore 4, 2) := by decide +kernel
theorem d_Mod_isOn_85 : decode b_Mod_isOn 85 = .ok (.aload_n 0, 1) := by decide +kernel
theorem d_Mod_isOn_86 : decode b_Mod_isOn 86 = .ok (.getfield 23, 3) := by decide +kernel
theorem d_Mod_isOn_89 : decode b_Mod_isOn 89 = .ok (.iload_n 3, 1) := by decide +kernel
theorem d_Mod_isOn_90 : decode b_Mod_isOn 90 = .ok (.iaload, 1) := by decide +kernel
theorem d_Mod_isOn_91 : decode b_Mod_isOn 91 = .ok (.aload_n 0, 1) := by decide +kernel
theorem d_Mod_isOn_92 : decode b_Mod_isOn 92 = .ok (.getfield 23, 3) := by decide +kernel
theorem d_Mod_isOn_95 : decode b_Mod_isOn 95 = .ok (.iload_n 1, 1) := by decide +kernel
theorem d_Mod_isOn_96 : decode b_Mod_isOn 96 = .ok (.iaload, 1) := by decide +kernel
theorem d_Mod_isOn_97 : decode b_Mod_isOn 97 = .ok (.aload_n 0, 1) := by decide +kernel
theorem d_Mod_isOn_98 : decode b_Mod_isOn 98 = .ok (.getfield 23, 3) := by decide +kernel
theorem d_Mod_isOn_101 : decode b_Mod_isOn 101 = .ok (.iload_n 2, 1) := by decide +kernel
theorem d_Mod_isOn_102 : decode b_Mod_isOn 102 = .ok (.iaload, 1) := by decide +kernel
theorem d_Mod_isOn_103 : decode b_Mod_isOn 103 = .ok (.if_icmp .ge 12, 3) := by decide +kernel
theorem d_Mod_isOn_106 : decode b_Mod_isOn 106 = .ok (.aload_n 0, 1) := by decide +kernel
theorem d_Mod_isOn_107 : decode b_Mod_isOn 107 = .ok (.getfield 23, 3) := by decide +kernel
theorem d_Mod_isOn_110 : decode b_Mod_isOn 110 = .ok (.iload_n 1, 1) := by decide +kernel
theorem d_Mod_isOn_111 : decode b_Mod_isOn 111 = .ok (.iaload, 1) := by decide +kernel
theorem d_Mod_isOn_112 : decode b_Mod_isOn 112 = .ok (.goto 9, 3) := by decide +kernel
theorem d_Mod_isOn_115 : decode b_Mod_isOn 115 = .ok (.aload_n 0, 1) := by decide +kernel
theorem d_Mod_isOn_116 : decode b_Mod_isOn 116 = .ok (.getfield 23, 3) := by decide +kernel
theorem d_Mod_isOn_119 : decode b_Mod_isOn 119 = .ok (.iload_n 2, 1) := by decide +kernel
theorem d_Mod_isOn_120 : decode b_Mod_isOn 120 = .ok (.iaload, 1) := by decide +kernel
theorem d_Mod_isOn_121 : decode b_Mod_isOn 121 = .ok (.if_icmp .lt 46, 3) := by decide +kernel
theorem d_Mod_isOn_124 : decode b_Mod_isOn 124 = .ok (.aload_n 0, 1) := by decide +kernel
theorem d_Mod_isOn_125 : decode b_Mod_isOn 125 = .ok (.getfield 23, 3) := by decide +kernel
theorem d_Mod_isOn_128 : decode b_Mod_isOn 128 = .ok (.iload_n 3, 1) := by decide +kernel
theorem d_Mod_isOn_129 : decode b_Mod_isOn 129 = .ok (.iaload, 1) := by decide +kernel
theorem d_Mod_isOn_130 : decode b_Mod_isOn 130 = .ok (.aload_n 0, 1) := by decide +kernel
theorem d_Mod_isOn_131 : decode b_Mod_isOn 131 = .ok (.getfield 23, 3) := by decide +kernel
theorem d_Mod_isOn_134 : decode b_Mod_isOn 134 = .ok (.iload_n 1, 1) := by decide +kernel
theorem d_Mod_isOn_135 : decode b_Mod_isOn 135 = .ok (.iaload, 1) := by decide +kernel
theorem d_Mod_isOn_136 : decode b_Mod_isOn 136 = .ok (.aload_n 0, 1) := by decide +kernel
theorem d_Mod_isOn_137 : decode b_Mod_isOn 137 = .ok (.getfield 23, 3) := by decide +kernel
theorem d_Mod_isOn_140 : decode b_Mod_isOn 140 = .ok (.iload_n 2, 1) := by decide +kernel
theorem d_Mod_isOn_141 : decode b_Mod_isOn 141 = .ok (.iaload, 1) := by decide +kernel
theorem d_Mod_isOn_142 : decode b_Mod_isOn 142 = .ok (.if_icmp .ge 12, 3) := by decide +kernel
theorem d_Mod_isOn_145 : decode b_Mod_isOn 145 = .ok (.aload_n 0, 1) := by decide +kernel
theorem d_Mod_isOn_146 : decode b_Mod_isOn 146 = .ok (.getfield 23, 3) := by decide +kernel
theorem d_Mod_isOn_149 : decode b_Mod_isOn 149 = .ok (.iload_n 2, 1) := by decide +kernel
theorem d_Mod_isOn_150 : decode b_Mod_isOn 150 = .ok (.iaload, 1) := by decide +kernel
theorem d_Mod_isOn_151 : decode b_Mod_isOn 151 = .ok (.goto 9, 3) := by decide +kernel
theorem d_Mod_isOn_154 : decode b_Mod_isOn 154 = .ok (.aload_n 0, 1) := by decide +kernel
theorem d_Mod_isOn_155 : decode b_Mod_isOn 155 = .ok (.getfield 23, 3) := by decide +kernel
theorem d_Mod_isOn_158 : decode b_Mod_isOn 158 = .ok (.iload_n 1, 1) := by decide +kernel
theorem d_Mod_isOn_159 : decode b_Mod_isOn 159 = .ok (.iaload, 1) := by decide +kernel
theorem d_Mod_isOn_160 : decode b_Mod_isOn 160 = .ok (.if_icmp .gt 7, 3) := by decide +kernel
theorem d_Mod_isOn_163 : decode b_Mod_isOn 163 = .ok (.iconst 1, 1) := by decide +kernel
theorem d_Mod_isOn_164 : decode b_Mod_isOn 164 = .ok (.goto 4, 3) := by decide +kernel
theorem d_Mod_isOn_167 : decode b_Mod_isOn 167 = .ok (.iconst 0, 1) := by decide +kernel
theorem d_Mod_isOn_168 : decode b_Mod_isOn 168 = .ok (.istore 5, 2) := by decide +kernel
theorem d_Mod_isOn_170 : decode b_Mod_isOn 170 = .ok (.iload 4, 2) := by decide +kernel
theorem d_Mod_isOn_172 : decode b_Mod_isOn 172 = .ok (.ifCond .eq 22, 3) := by decide +kernel
theorem d_Mod_isOn_175 : decode b_Mod_isOn 175 = .ok (.iload 5, 2) := by decide +kernel
theorem d_Mod_isOn_177 : decode b_Mod_isOn 177 = .ok (.ifCond .eq 17, 3) := by decide +kernel
theorem d_Mod_isOn_180 : decode b_Mod_isOn 180 = .ok (.aload_n 0, 1) := by decide +kernel
theorem d_Mod_isOn_181 : decode b_Mod_isOn 181 = .ok (.iload_n 1, 1) := by decide +kernel
theorem d_Mod_isOn_182 : decode b_Mod_isOn 182 = .ok (.iload_n 2, 1) := by decide +kernel
theorem d_Mod_isOn_183 : decode b_Mod_isOn 183 = .ok (.iload_n 3, 1) := by decide +kernel
theorem d_Mod_isOn_184 : decode b_Mod_isOn 184 = .ok (.invokevirtual 185, 3) := by decide +kernel
theorem d_Mod_isOn_187 : decode b_Mod_isOn 187 = .ok (.ifCond .ne 7, 3) := by decide +kernel
theorem d_Mod_isOn_190 : decode b_Mod_isOn 190 = .ok (.iconst 1, 1) := by decide +kernel
theorem d_Mod_isOn_191 : decode b_Mod_isOn 191 = .ok (.goto 4, 3) := by decide +kernel
theorem d_Mod_isOn_194 : decode b_Mod_isOn 194 = .ok (.iconst 0, 1) := by decide +kernel
theorem d_Mod_isOn_195 : decode b_Mod_isOn 195 = .ok (.ireturn, 1) := by decide +kernel
theorem d_Mod_isThere_0 : decode b_Mod_isThere 0 = .ok (.iload_n 1, 1) := by decide +kernel
theorem d_Mod_isThere_1 : decode b_Mod_isThere 1 = .ok (.invokestatic 72, 3) := by decide +kernel
theorem d_Mod_isThere_4 : decode b_Mod_isThere 4 = .ok (.ifCond .eq 16, 3) := by decide +kernel
theorem d_Mod_isThere_7 : decode b_Mod_isThere 7 = .ok (.aload_n 0, 1) := by decide +kernel
theorem d_Mod_isThere_8 : decode b_Mod_isThere 8 = .ok (.getfield 7, 3) := by decide +kernel
theorem d_Mod_isThere_11 : decode b_Mod_isThere 11 = .ok (.iload_n 1, 1) := by decide +kernel
theorem d_Mod_isThere_12 : decode b_Mod_isThere 12 = .ok (.baload, 1) := by decide +kernel
theorem d_Mod_isThere_13 : decode b_Mod_isThere 13 = .ok (.ifCond .eq 7, 3) := by decide +kernel
theorem d_Mod_isThere_16 : decode b_Mod_isThere 16 = .ok (.iconst 1, 1) := by decide +kernel
theorem d_Mod_isThere_17 : decode b_Mod_isThere 17 = .ok (.goto 4, 3) := by decide +kernel
theorem d_Mod_isThere_20 : decode b_Mod_isThere 20 = .ok (.iconst 0, 1) := by decide +kernel
theorem d_Mod_isThere_21 : decode b_Mod_isThere 21 = .ok (.ireturn, 1) := by decide +kernel
theorem d_Mod_lay_0 : decode b_Mod_lay 0 = .ok (.aload_n 0, 1) := by decide +kernel
theorem d_Mod_lay_1 : decode b_Mod_lay 1 = .ok (.iconst 0, 1) := by decide +kernel
theorem d_Mod_lay_2 : decode b_Mod_lay 2 = .ok (.putfield 106, 3) := by decide +kernel
theorem d_Mod_lay_5 : decode b_Mod_lay 5 = .ok (.iconst 0, 1) := by decide +kernel
theorem d_Mod_lay_6 : decode b_Mod_lay 6 = .ok (.istore_n 2, 1) := by decide +kernel
theorem d_Mod_lay_7 : decode b_Mod_lay 7 = .ok (.iload_n 2, 1) := by decide +kernel
theorem d_Mod_lay_8 : decode b_Mod_lay 8 = .ok (.bipush 24, 2) := by decide +kernel
theorem d_Mod_lay_10 : decode b_Mod_lay 10 = .ok (.if_icmp .ge 43, 3) := by decide +kernel
theorem d_Mod_lay_13 : decode b_Mod_lay 13 = .ok (.iload_n 1, 1) := by decide +kernel
theorem d_Mod_lay_14 : decode b_Mod_lay 14 = .ok (.iload_n 2, 1) := by decide +kernel
theorem d_Mod_lay_15 : decode b_Mod_lay 15 = .ok (.ishr, 1) := by decide +kernel
