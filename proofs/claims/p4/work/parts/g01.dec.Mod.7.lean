theorem d_Mod_lineBetween_68 : decode b_Mod_lineBetween 68 = .ok (.goto 4, 3) := by decide +kernel
theorem d_Mod_lineBetween_71 : decode b_Mod_lineBetween 71 = .ok (.iload_n 3, 1) := by decide +kernel
theorem d_Mod_lineBetween_72 : decode b_Mod_lineBetween 72 = .ok (.istore_n 3, 1) := by decide +kernel
theorem d_Mod_lineBetween_73 : decode b_Mod_lineBetween 73 = .ok (.iinc 4 1, 3) := by decide +kernel
theorem d_Mod_lineBetween_76 : decode b_Mod_lineBetween 76 = .ok (.goto (-71), 3) := by decide +kernel
theorem d_Mod_lineBetween_79 : decode b_Mod_lineBetween 79 = .ok (.iload_n 3, 1) := by decide +kernel
theorem d_Mod_lineBetween_80 : decode b_Mod_lineBetween 80 = .ok (.ireturn, 1) := by decide +kernel
theorem d_Mod_lineBits_0 : decode b_Mod_lineBits 0 = .ok (.iconst 0, 1) := by decide +kernel
theorem d_Mod_lineBits_1 : decode b_Mod_lineBits 1 = .ok (.istore_n 1, 1) := by decide +kernel
theorem d_Mod_lineBits_2 : decode b_Mod_lineBits 2 = .ok (.iconst 0, 1) := by decide +kernel
theorem d_Mod_lineBits_3 : decode b_Mod_lineBits 3 = .ok (.istore_n 2, 1) := by decide +kernel
theorem d_Mod_lineBits_4 : decode b_Mod_lineBits 4 = .ok (.iload_n 2, 1) := by decide +kernel
theorem d_Mod_lineBits_5 : decode b_Mod_lineBits 5 = .ok (.bipush 24, 2) := by decide +kernel
theorem d_Mod_lineBits_7 : decode b_Mod_lineBits 7 = .ok (.if_icmp .ge 28, 3) := by decide +kernel
theorem d_Mod_lineBits_10 : decode b_Mod_lineBits 10 = .ok (.aload_n 0, 1) := by decide +kernel
theorem d_Mod_lineBits_11 : decode b_Mod_lineBits 11 = .ok (.getfield 13, 3) := by decide +kernel
theorem d_Mod_lineBits_14 : decode b_Mod_lineBits 14 = .ok (.iload_n 2, 1) := by decide +kernel
theorem d_Mod_lineBits_15 : decode b_Mod_lineBits 15 = .ok (.iaload, 1) := by decide +kernel
theorem d_Mod_lineBits_16 : decode b_Mod_lineBits 16 = .ok (.ifCond .lt 11, 3) := by decide +kernel
theorem d_Mod_lineBits_19 : decode b_Mod_lineBits 19 = .ok (.iload_n 1, 1) := by decide +kernel
theorem d_Mod_lineBits_20 : decode b_Mod_lineBits 20 = .ok (.iconst 1, 1) := by decide +kernel
theorem d_Mod_lineBits_21 : decode b_Mod_lineBits 21 = .ok (.iload_n 2, 1) := by decide +kernel
theorem d_Mod_lineBits_22 : decode b_Mod_lineBits 22 = .ok (.ishl, 1) := by decide +kernel
theorem d_Mod_lineBits_23 : decode b_Mod_lineBits 23 = .ok (.ior, 1) := by decide +kernel
theorem d_Mod_lineBits_24 : decode b_Mod_lineBits 24 = .ok (.goto 4, 3) := by decide +kernel
theorem d_Mod_lineBits_27 : decode b_Mod_lineBits 27 = .ok (.iload_n 1, 1) := by decide +kernel
theorem d_Mod_lineBits_28 : decode b_Mod_lineBits 28 = .ok (.istore_n 1, 1) := by decide +kernel
theorem d_Mod_lineBits_29 : decode b_Mod_lineBits 29 = .ok (.iinc 2 1, 3) := by decide +kernel
theorem d_Mod_lineBits_32 : decode b_Mod_lineBits 32 = .ok (.goto (-28), 3) := by decide +kernel
theorem d_Mod_lineBits_35 : decode b_Mod_lineBits 35 = .ok (.iload_n 1, 1) := by decide +kernel
theorem d_Mod_lineBits_36 : decode b_Mod_lineBits 36 = .ok (.ireturn, 1) := by decide +kernel
theorem d_Mod_lines_0 : decode b_Mod_lines 0 = .ok (.aload_n 0, 1) := by decide +kernel
theorem d_Mod_lines_1 : decode b_Mod_lines 1 = .ok (.iconst 0, 1) := by decide +kernel
theorem d_Mod_lines_2 : decode b_Mod_lines 2 = .ok (.putfield 68, 3) := by decide +kernel
theorem d_Mod_lines_5 : decode b_Mod_lines 5 = .ok (.aload_n 0, 1) := by decide +kernel
theorem d_Mod_lines_6 : decode b_Mod_lines 6 = .ok (.invokevirtual 103, 3) := by decide +kernel
theorem d_Mod_lines_9 : decode b_Mod_lines 9 = .ok (.ireturn, 1) := by decide +kernel
theorem d_Mod_lowest_0 : decode b_Mod_lowest 0 = .ok (.aload_n 0, 1) := by decide +kernel
theorem d_Mod_lowest_1 : decode b_Mod_lowest 1 = .ok (.getfield 41, 3) := by decide +kernel
theorem d_Mod_lowest_4 : decode b_Mod_lowest 4 = .ok (.aload_n 0, 1) := by decide +kernel
theorem d_Mod_lowest_5 : decode b_Mod_lowest 5 = .ok (.getfield 32, 3) := by decide +kernel
theorem d_Mod_lowest_8 : decode b_Mod_lowest 8 = .ok (.iload_n 1, 1) := by decide +kernel
theorem d_Mod_lowest_9 : decode b_Mod_lowest 9 = .ok (.iaload, 1) := by decide +kernel
theorem d_Mod_lowest_10 : decode b_Mod_lowest 10 = .ok (.iaload, 1) := by decide +kernel
theorem d_Mod_lowest_11 : decode b_Mod_lowest 11 = .ok (.istore_n 2, 1) := by decide +kernel
theorem d_Mod_lowest_12 : decode b_Mod_lowest 12 = .ok (.iconst 0, 1) := by decide +kernel
theorem d_Mod_lowest_13 : decode b_Mod_lowest 13 = .ok (.istore_n 3, 1) := by decide +kernel
theorem d_Mod_lowest_14 : decode b_Mod_lowest 14 = .ok (.iload_n 3, 1) := by decide +kernel
theorem d_Mod_lowest_15 : decode b_Mod_lowest 15 = .ok (.aload_n 0, 1) := by decide +kernel
theorem d_Mod_lowest_16 : decode b_Mod_lowest 16 = .ok (.getfield 106, 3) := by decide +kernel
theorem d_Mod_lowest_19 : decode b_Mod_lowest 19 = .ok (.if_icmp .ge 49, 3) := by decide +kernel
theorem d_Mod_lowest_22 : decode b_Mod_lowest 22 = .ok (.aload_n 0, 1) := by decide +kernel
theorem d_Mod_lowest_23 : decode b_Mod_lowest 23 = .ok (.iload_n 1, 1) := by decide +kernel
theorem d_Mod_lowest_24 : decode b_Mod_lowest 24 = .ok (.iload_n 3, 1) := by decide +kernel
theorem d_Mod_lowest_25 : decode b_Mod_lowest 25 = .ok (.invokevirtual 121, 3) := by decide +kernel
theorem d_Mod_lowest_28 : decode b_Mod_lowest 28 = .ok (.ifCond .eq 32, 3) := by decide +kernel
theorem d_Mod_lowest_31 : decode b_Mod_lowest 31 = .ok (.aload_n 0, 1) := by decide +kernel
theorem d_Mod_lowest_32 : decode b_Mod_lowest 32 = .ok (.getfield 41, 3) := by decide +kernel
theorem d_Mod_lowest_35 : decode b_Mod_lowest 35 = .ok (.aload_n 0, 1) := by decide +kernel
theorem d_Mod_lowest_36 : decode b_Mod_lowest 36 = .ok (.getfield 35, 3) := by decide +kernel
theorem d_Mod_lowest_39 : decode b_Mod_lowest 39 = .ok (.iload_n 3, 1) := by decide +kernel
theorem d_Mod_lowest_40 : decode b_Mod_lowest 40 = .ok (.iaload, 1) := by decide +kernel
theorem d_Mod_lowest_41 : decode b_Mod_lowest 41 = .ok (.iaload, 1) := by decide +kernel
theorem d_Mod_lowest_42 : decode b_Mod_lowest 42 = .ok (.iload_n 2, 1) := by decide +kernel
theorem d_Mod_lowest_43 : decode b_Mod_lowest 43 = .ok (.if_icmp .ge 17, 3) := by decide +kernel
theorem d_Mod_lowest_46 : decode b_Mod_lowest 46 = .ok (.aload_n 0, 1) := by decide +kernel
theorem d_Mod_lowest_47 : decode b_Mod_lowest 47 = .ok (.getfield 41, 3) := by decide +kernel
theorem d_Mod_lowest_50 : decode b_Mod_lowest 50 = .ok (.aload_n 0, 1) := by decide +kernel
theorem d_Mod_lowest_51 : decode b_Mod_lowest 51 = .ok (.getfield 35, 3) := by decide +kernel
theorem d_Mod_lowest_54 : decode b_Mod_lowest 54 = .ok (.iload_n 3, 1) := by decide +kernel
theorem d_Mod_lowest_55 : decode b_Mod_lowest 55 = .ok (.iaload, 1) := by decide +kernel
theorem d_Mod_lowest_56 : decode b_Mod_lowest 56 = .ok (.iaload, 1) := by decide +kernel
theorem d_Mod_lowest_57 : decode b_Mod_lowest 57 = .ok (.goto 4, 3) := by decide +kernel
theorem d_Mod_lowest_60 : decode b_Mod_lowest 60 = .ok (.iload_n 2, 1) := by decide +kernel
theorem d_Mod_lowest_61 : decode b_Mod_lowest 61 = .ok (.istore_n 2, 1) := by decide +kernel
theorem d_Mod_lowest_62 : decode b_Mod_lowest 62 = .ok (.iinc 3 1, 3) := by decide +kernel
theorem d_Mod_lowest_65 : decode b_Mod_lowest 65 = .ok (.goto (-51), 3) := by decide +kernel
theorem d_Mod_lowest_68 : decode b_Mod_lowest 68 = .ok (.iload_n 2, 1) := by decide +kernel
theorem d_Mod_lowest_69 : decode b_Mod_lowest 69 = .ok (.ireturn, 1) := by decide +kernel
theorem d_Mod_meetBehind_0 : decode b_Mod_meetBehind 0 = .ok (.aload_n 0, 1) := by decide +kernel
theorem d_Mod_meetBehind_1 : decode b_Mod_meetBehind 1 = .ok (.getfield 20, 3) := by decide +kernel
theorem d_Mod_meetBehind_4 : decode b_Mod_meetBehind 4 = .ok (.iload_n 2, 1) := by decide +kernel
theorem d_Mod_meetBehind_5 : decode b_Mod_meetBehind 5 = .ok (.iaload, 1) := by decide +kernel
theorem d_Mod_meetBehind_6 : decode b_Mod_meetBehind 6 = .ok (.aload_n 0, 1) := by decide +kernel
theorem d_Mod_meetBehind_7 : decode b_Mod_meetBehind 7 = .ok (.getfield 20, 3) := by decide +kernel
theorem d_Mod_meetBehind_10 : decode b_Mod_meetBehind 10 = .ok (.iload_n 1, 1) := by decide +kernel
theorem d_Mod_meetBehind_11 : decode b_Mod_meetBehind 11 = .ok (.iaload, 1) := by decide +kernel
theorem d_Mod_meetBehind_12 : decode b_Mod_meetBehind 12 = .ok (.isub, 1) := by decide +kernel
theorem d_Mod_meetBehind_13 : decode b_Mod_meetBehind 13 = .ok (.aload_n 0, 1) := by decide +kernel
theorem d_Mod_meetBehind_14 : decode b_Mod_meetBehind 14 = .ok (.getfield 20, 3) := by decide +kernel
theorem d_Mod_meetBehind_17 : decode b_Mod_meetBehind 17 = .ok (.iload_n 3, 1) := by decide +kernel
theorem d_Mod_meetBehind_18 : decode b_Mod_meetBehind 18 = .ok (.iaload, 1) := by decide +kernel
theorem d_Mod_meetBehind_19 : decode b_Mod_meetBehind 19 = .ok (.aload_n 0, 1) := by decide +kernel
theorem d_Mod_meetBehind_20 : decode b_Mod_meetBehind 20 = .ok (.getfield 20, 3) := by decide +kernel
theorem d_Mod_meetBehind_23 : decode b_Mod_meetBehind 23 = .ok (.iload_n 1, 1) := by decide +kernel
theorem d_Mod_meetBehind_24 : decode b_Mod_meetBehind 24 = .ok (.iaload, 1) := by decide +kernel
theorem d_Mod_meetBehind_25 : decode b_Mod_meetBehind 25 = .ok (.isub, 1) := by decide +kernel
theorem d_Mod_meetBehind_26 : decode b_Mod_meetBehind 26 = .ok (.imul, 1) := by decide +kernel
theorem d_Mod_meetBehind_27 : decode b_Mod_meetBehind 27 = .ok (.istore 4, 2) := by decide +kernel
theorem d_Mod_meetBehind_29 : decode b_Mod_meetBehind 29 = .ok (.aload_n 0, 1) := by decide +kernel
theorem d_Mod_meetBehind_30 : decode b_Mod_meetBehind 30 = .ok (.getfield 23, 3) := by decide +kernel
theorem d_Mod_meetBehind_33 : decode b_Mod_meetBehind 33 = .ok (.iload_n 2, 1) := by decide +kernel
theorem d_Mod_meetBehind_34 : decode b_Mod_meetBehind 34 = .ok (.iaload, 1) := by decide +kernel
theorem d_Mod_meetBehind_35 : decode b_Mod_meetBehind 35 = .ok (.aload_n 0, 1) := by decide +kernel
theorem d_Mod_meetBehind_36 : decode b_Mod_meetBehind 36 = .ok (.getfield 23, 3) := by decide +kernel
theorem d_Mod_meetBehind_39 : decode b_Mod_meetBehind 39 = .ok (.iload_n 1, 1) := by decide +kernel
theorem d_Mod_meetBehind_40 : decode b_Mod_meetBehind 40 = .ok (.iaload, 1) := by decide +kernel
theorem d_Mod_meetBehind_41 : decode b_Mod_meetBehind 41 = .ok (.isub, 1) := by decide +kernel
theorem d_Mod_meetBehind_42 : decode b_Mod_meetBehind 42 = .ok (.aload_n 0, 1) := by decide +kernel
theorem d_Mod_meetBehind_43 : decode b_Mod_meetBehind 43 = .ok (.getfield 23, 3) := by decide +kernel
theorem d_Mod_meetBehind_46 : decode b_Mod_meetBehind 46 = .ok (.iload_n 3, 1) := by decide +kernel
theorem d_Mod_meetBehind_47 : decode b_Mod_meetBehind 47 = .ok (.iaload, 1) := by decide +kernel
theorem d_Mod_meetBehind_48 : decode b_Mod_meetBehind 48 = .ok (.aload_n 0, 1) := by decide +kernel
theorem d_Mod_meetBehind_49 : decode b_Mod_meetBehind 49 = .ok (.getfield 23, 3) := by decide +kernel
theorem d_Mod_meetBehind_52 : decode b_Mod_meetBehind 52 = .ok (.iload_n 1, 1) := by decide +kernel
theorem d_Mod_meetBehind_53 : decode b_Mod_meetBehind 53 = .ok (.iaload, 1) := by decide +kernel
theorem d_Mod_meetBehind_54 : decode b_Mod_meetBehind 54 = .ok (.isub, 1) := by decide +kernel
theorem d_Mod_meetBehind_55 : decode b_Mod_meetBehind 55 = .ok (.imul, 1) := by decide +kernel
theorem d_Mod_meetBehind_56 : decode b_Mod_meetBehind 56 = .ok (.istore 5, 2) := by decide +kernel
theorem d_Mod_meetBehind_58 : decode b_Mod_meetBehind 58 = .ok (.aload_n 0, 1) := by decide +kernel
theorem d_Mod_meetBehind_59 : decode b_Mod_meetBehind 59 = .ok (.iload_n 1, 1) := by decide +kernel
theorem d_Mod_meetBehind_60 : decode b_Mod_meetBehind 60 = .ok (.iload_n 2, 1) := by decide +kernel
theorem d_Mod_meetBehind_61 : decode b_Mod_meetBehind 61 = .ok (.iload_n 3, 1) := by decide +kernel
theorem d_Mod_meetBehind_62 : decode b_Mod_meetBehind 62 = .ok (.invokevirtual 185, 3) := by decide +kernel
theorem d_Mod_meetBehind_65 : decode b_Mod_meetBehind 65 = .ok (.ifCond .ne 15, 3) := by decide +kernel
theorem d_Mod_meetBehind_68 : decode b_Mod_meetBehind 68 = .ok (.iload 4, 2) := by decide +kernel
theorem d_Mod_meetBehind_70 : decode b_Mod_meetBehind 70 = .ok (.iload 5, 2) := by decide +kernel
theorem d_Mod_meetBehind_72 : decode b_Mod_meetBehind 72 = .ok (.iadd, 1) := by decide +kernel
theorem d_Mod_meetBehind_73 : decode b_Mod_meetBehind 73 = .ok (.ifCond .le 7, 3) := by decide +kernel
theorem d_Mod_meetBehind_76 : decode b_Mod_meetBehind 76 = .ok (.iconst 1, 1) := by decide +kernel
theorem d_Mod_meetBehind_77 : decode b_Mod_meetBehind 77 = .ok (.goto 4, 3) := by decide +kernel
theorem d_Mod_meetBehind_80 : decode b_Mod_meetBehind 80 = .ok (.iconst 0, 1) := by decide +kernel
theorem d_Mod_meetBehind_81 : decode b_Mod_meetBehind 81 = .ok (.ireturn, 1) := by decide +kernel
theorem d_Mod_meetNow_0 : decode b_Mod_meetNow 0 = .ok (.aload_n 0, 1) := by decide +kernel
theorem d_Mod_meetNow_1 : decode b_Mod_meetNow 1 = .ok (.getfield 13, 3) := by decide +kernel
theorem d_Mod_meetNow_4 : decode b_Mod_meetNow 4 = .ok (.iload_n 1, 1) := by decide +kernel
theorem d_Mod_meetNow_5 : decode b_Mod_meetNow 5 = .ok (.iaload, 1) := by decide +kernel
theorem d_Mod_meetNow_6 : decode b_Mod_meetNow 6 = .ok (.istore_n 3, 1) := by decide +kernel
theorem d_Mod_meetNow_7 : decode b_Mod_meetNow 7 = .ok (.aload_n 0, 1) := by decide +kernel
theorem d_Mod_meetNow_8 : decode b_Mod_meetNow 8 = .ok (.getfield 17, 3) := by decide +kernel
theorem d_Mod_meetNow_11 : decode b_Mod_meetNow 11 = .ok (.iload_n 1, 1) := by decide +kernel
theorem d_Mod_meetNow_12 : decode b_Mod_meetNow 12 = .ok (.iaload, 1) := by decide +kernel
theorem d_Mod_meetNow_13 : decode b_Mod_meetNow 13 = .ok (.istore 4, 2) := by decide +kernel
theorem d_Mod_meetNow_15 : decode b_Mod_meetNow 15 = .ok (.aload_n 0, 1) := by decide +kernel
theorem d_Mod_meetNow_16 : decode b_Mod_meetNow 16 = .ok (.getfield 13, 3) := by decide +kernel
theorem d_Mod_meetNow_19 : decode b_Mod_meetNow 19 = .ok (.iload_n 2, 1) := by decide +kernel
theorem d_Mod_meetNow_20 : decode b_Mod_meetNow 20 = .ok (.iaload, 1) := by decide +kernel
theorem d_Mod_meetNow_21 : decode b_Mod_meetNow 21 = .ok (.istore 5, 2) := by decide +kernel
theorem d_Mod_meetNow_23 : decode b_Mod_meetNow 23 = .ok (.aload_n 0, 1) := by decide +kernel
theorem d_Mod_meetNow_24 : decode b_Mod_meetNow 24 = .ok (.getfield 17, 3) := by decide +kernel
theorem d_Mod_meetNow_27 : decode b_Mod_meetNow 27 = .ok (.iload_n 2, 1) := by decide +kernel
theorem d_Mod_meetNow_28 : decode b_Mod_meetNow 28 = .ok (.iaload, 1) := by decide +kernel
theorem d_Mod_meetNow_29 : decode b_Mod_meetNow 29 = .ok (.istore 6, 2) := by decide +kernel
theorem d_Mod_meetNow_31 : decode b_Mod_meetNow 31 = .ok (.iload_n 3, 1) := by decide +kernel
theorem d_Mod_meetNow_32 : decode b_Mod_meetNow 32 = .ok (.iload 5, 2) := by decide +kernel
theorem d_Mod_meetNow_34 : decode b_Mod_meetNow 34 = .ok (.if_icmp .eq 9, 3) := by decide +kernel
theorem d_Mod_meetNow_37 : decode b_Mod_meetNow 37 = .ok (.iload_n 3, 1) := by decide +kernel
theorem d_Mod_meetNow_38 : decode b_Mod_meetNow 38 = .ok (.iload 6, 2) := by decide +kernel
theorem d_Mod_meetNow_40 : decode b_Mod_meetNow 40 = .ok (.if_icmp .ne 24, 3) := by decide +kernel
theorem d_Mod_meetNow_43 : decode b_Mod_meetNow 43 = .ok (.aload_n 0, 1) := by decide +kernel
theorem d_Mod_meetNow_44 : decode b_Mod_meetNow 44 = .ok (.iload_n 3, 1) := by decide +kernel
theorem d_Mod_meetNow_45 : decode b_Mod_meetNow 45 = .ok (.iload 4, 2) := by decide +kernel
theorem d_Mod_meetNow_47 : decode b_Mod_meetNow 47 = .ok (.iload_n 3, 1) := by decide +kernel
theorem d_Mod_meetNow_48 : decode b_Mod_meetNow 48 = .ok (.iload 5, 2) := by decide +kernel
theorem d_Mod_meetNow_50 : decode b_Mod_meetNow 50 = .ok (.if_icmp .ne 8, 3) := by decide +kernel
theorem d_Mod_meetNow_53 : decode b_Mod_meetNow 53 = .ok (.iload 6, 2) := by decide +kernel
theorem d_Mod_meetNow_55 : decode b_Mod_meetNow 55 = .ok (.goto 5, 3) := by decide +kernel
theorem d_Mod_meetNow_58 : decode b_Mod_meetNow 58 = .ok (.iload 5, 2) := by decide +kernel
theorem d_Mod_meetNow_60 : decode b_Mod_meetNow 60 = .ok (.invokevirtual 188, 3) := by decide +kernel
theorem d_Mod_meetNow_63 : decode b_Mod_meetNow 63 = .ok (.ireturn, 1) := by decide +kernel
theorem d_Mod_meetNow_64 : decode b_Mod_meetNow 64 = .ok (.iload 4, 2) := by decide +kernel
theorem d_Mod_meetNow_66 : decode b_Mod_meetNow 66 = .ok (.iload 5, 2) := by decide +kernel
theorem d_Mod_meetNow_68 : decode b_Mod_meetNow 68 = .ok (.if_icmp .eq 10, 3) := by decide +kernel
theorem d_Mod_meetNow_71 : decode b_Mod_meetNow 71 = .ok (.iload 4, 2) := by decide +kernel
theorem d_Mod_meetNow_73 : decode b_Mod_meetNow 73 = .ok (.iload 6, 2) := by decide +kernel
theorem d_Mod_meetNow_75 : decode b_Mod_meetNow 75 = .ok (.if_icmp .ne 25, 3) := by decide +kernel
theorem d_Mod_meetNow_78 : decode b_Mod_meetNow 78 = .ok (.aload_n 0, 1) := by decide +kernel
theorem d_Mod_meetNow_79 : decode b_Mod_meetNow 79 = .ok (.iload 4, 2) := by decide +kernel
theorem d_Mod_meetNow_81 : decode b_Mod_meetNow 81 = .ok (.iload_n 3, 1) := by decide +kernel
theorem d_Mod_meetNow_82 : decode b_Mod_meetNow 82 = .ok (.iload 4, 2) := by decide +kernel
theorem d_Mod_meetNow_84 : decode b_Mod_meetNow 84 = .ok (.iload 5, 2) := by decide +kernel
theorem d_Mod_meetNow_86 : decode b_Mod_meetNow 86 = .ok (.if_icmp .ne 8, 3) := by decide +kernel
theorem d_Mod_meetNow_89 : decode b_Mod_meetNow 89 = .ok (.iload 6, 2) := by decide +kernel
theorem d_Mod_meetNow_91 : decode b_Mod_meetNow 91 = .ok (.goto 5, 3) := by decide +kernel
theorem d_Mod_meetNow_94 : decode b_Mod_meetNow 94 = .ok (.iload 5, 2) := by decide +kernel
theorem d_Mod_meetNow_96 : decode b_Mod_meetNow 96 = .ok (.invokevirtual 188, 3) := by decide +kernel
theorem d_Mod_meetNow_99 : decode b_Mod_meetNow 99 = .ok (.ireturn, 1) := by decide +kernel
theorem d_Mod_meetNow_100 : decode b_Mod_meetNow 100 = .ok (.aload_n 0, 1) := by decide +kernel
theorem d_Mod_meetNow_101 : decode b_Mod_meetNow 101 = .ok (.iload_n 3, 1) := by decide +kernel
theorem d_Mod_meetNow_102 : decode b_Mod_meetNow 102 = .ok (.iload 4, 2) := by decide +kernel
theorem d_Mod_meetNow_104 : decode b_Mod_meetNow 104 = .ok (.iload 5, 2) := by decide +kernel
theorem d_Mod_meetNow_106 : decode b_Mod_meetNow 106 = .ok (.invokevirtual 191, 3) := by decide +kernel
theorem d_Mod_meetNow_109 : decode b_Mod_meetNow 109 = .ok (.ifCond .ne 40, 3) := by decide +kernel
theorem d_Mod_meetNow_112 : decode b_Mod_meetNow 112 = .ok (.aload_n 0, 1) := by decide +kernel
theorem d_Mod_meetNow_113 : decode b_Mod_meetNow 113 = .ok (.iload_n 3, 1) := by decide +kernel
theorem d_Mod_meetNow_114 : decode b_Mod_meetNow 114 = .ok (.iload 4, 2) := by decide +kernel
theorem d_Mod_meetNow_116 : decode b_Mod_meetNow 116 = .ok (.iload 6, 2) := by decide +kernel
theorem d_Mod_meetNow_118 : decode b_Mod_meetNow 118 = .ok (.invokevirtual 191, 3) := by decide +kernel
theorem d_Mod_meetNow_121 : decode b_Mod_meetNow 121 = .ok (.ifCond .ne 28, 3) := by decide +kernel
theorem d_Mod_meetNow_124 : decode b_Mod_meetNow 124 = .ok (.aload_n 0, 1) := by decide +kernel
theorem d_Mod_meetNow_125 : decode b_Mod_meetNow 125 = .ok (.iload 5, 2) := by decide +kernel
theorem d_Mod_meetNow_127 : decode b_Mod_meetNow 127 = .ok (.iload 6, 2) := by decide +kernel
theorem d_Mod_meetNow_129 : decode b_Mod_meetNow 129 = .ok (.iload_n 3, 1) := by decide +kernel
theorem d_Mod_meetNow_130 : decode b_Mod_meetNow 130 = .ok (.invokevirtual 191, 3) := by decide +kernel
theorem d_Mod_meetNow_133 : decode b_Mod_meetNow 133 = .ok (.ifCond .ne 16, 3) := by decide +kernel
theorem d_Mod_meetNow_136 : decode b_Mod_meetNow 136 = .ok (.aload_n 0, 1) := by decide +kernel
theorem d_Mod_meetNow_137 : decode b_Mod_meetNow 137 = .ok (.iload 5, 2) := by decide +kernel
theorem d_Mod_meetNow_139 : decode b_Mod_meetNow 139 = .ok (.iload 6, 2) := by decide +kernel
theorem d_Mod_meetNow_141 : decode b_Mod_meetNow 141 = .ok (.iload 4, 2) := by decide +kernel
theorem d_Mod_meetNow_143 : decode b_Mod_meetNow 143 = .ok (.invokevirtual 191, 3) := by decide +kernel
theorem d_Mod_meetNow_146 : decode b_Mod_meetNow 146 = .ok (.ifCond .eq 5, 3) := by decide +kernel
theorem d_Mod_meetNow_149 : decode b_Mod_meetNow 149 = .ok (.iconst 1, 1) := by decide +kernel
theorem d_Mod_meetNow_150 : decode b_Mod_meetNow 150 = .ok (.ireturn, 1) := by decide +kernel
theorem d_Mod_meetNow_151 : decode b_Mod_meetNow 151 = .ok (.aload_n 0, 1) := by decide +kernel
theorem d_Mod_meetNow_152 : decode b_Mod_meetNow 152 = .ok (.iload_n 3, 1) := by decide +kernel
theorem d_Mod_meetNow_153 : decode b_Mod_meetNow 153 = .ok (.iload 4, 2) := by decide +kernel
theorem d_Mod_meetNow_155 : decode b_Mod_meetNow 155 = .ok (.iload 5, 2) := by decide +kernel
theorem d_Mod_meetNow_157 : decode b_Mod_meetNow 157 = .ok (.invokevirtual 185, 3) := by decide +kernel
theorem d_Mod_meetNow_160 : decode b_Mod_meetNow 160 = .ok (.aload_n 0, 1) := by decide +kernel
theorem d_Mod_meetNow_161 : decode b_Mod_meetNow 161 = .ok (.iload_n 3, 1) := by decide +kernel
theorem d_Mod_meetNow_162 : decode b_Mod_meetNow 162 = .ok (.iload 4, 2) := by decide +kernel
theorem d_Mod_meetNow_164 : decode b_Mod_meetNow 164 = .ok (.iload 6, 2) := by decide +kernel
theorem d_Mod_meetNow_166 : decode b_Mod_meetNow 166 = .ok (.invokevirtual 185, 3) := by decide +kernel
theorem d_Mod_meetNow_169 : decode b_Mod_meetNow 169 = .ok (.imul, 1) := by decide +kernel
theorem d_Mod_meetNow_170 : decode b_Mod_meetNow 170 = .ok (.ifCond .ge 30, 3) := by decide +kernel
theorem d_Mod_meetNow_173 : decode b_Mod_meetNow 173 = .ok (.aload_n 0, 1) := by decide +kernel
theorem d_Mod_meetNow_174 : decode b_Mod_meetNow 174 = .ok (.iload 5, 2) := by decide +kernel
theorem d_Mod_meetNow_176 : decode b_Mod_meetNow 176 = .ok (.iload 6, 2) := by decide +kernel
theorem d_Mod_meetNow_178 : decode b_Mod_meetNow 178 = .ok (.iload_n 3, 1) := by decide +kernel
theorem d_Mod_meetNow_179 : decode b_Mod_meetNow 179 = .ok (.invokevirtual 185, 3) := by decide +kernel
theorem d_Mod_meetNow_182 : decode b_Mod_meetNow 182 = .ok (.aload_n 0, 1) := by decide +kernel
theorem d_Mod_meetNow_183 : decode b_Mod_meetNow 183 = .ok (.iload 5, 2) := by decide +kernel
theorem d_Mod_meetNow_185 : decode b_Mod_meetNow 185 = .ok (.iload 6, 2) := by decide +kernel
theorem d_Mod_meetNow_187 : decode b_Mod_meetNow 187 = .ok (.iload 4, 2) := by decide +kernel
theorem d_Mod_meetNow_189 : decode b_Mod_meetNow 189 = .ok (.invokevirtual 185, 3) := by decide +kernel
theorem d_Mod_meetNow_192 : decode b_Mod_meetNow 192 = .ok (.imul, 1) := by decide +kernel
theorem d_Mod_meetNow_193 : decode b_Mod_meetNow 193 = .ok (.ifCond .ge 7, 3) := by decide +kernel
theorem d_Mod_meetNow_196 : decode b_Mod_meetNow 196 = .ok (.iconst 1, 1) := by decide +kernel
theorem d_Mod_meetNow_197 : decode b_Mod_meetNow 197 = .ok (.goto 4, 3) := by decide +kernel
theorem d_Mod_meetNow_200 : decode b_Mod_meetNow 200 = .ok (.iconst 0, 1) := by decide +kernel
theorem d_Mod_meetNow_201 : decode b_Mod_meetNow 201 = .ok (.ireturn, 1) := by decide +kernel
theorem d_Mod_meetings_0 : decode b_Mod_meetings 0 = .ok (.iconst 0, 1) := by decide +kernel
theorem d_Mod_meetings_1 : decode b_Mod_meetings 1 = .ok (.istore_n 1, 1) := by decide +kernel
theorem d_Mod_meetings_2 : decode b_Mod_meetings 2 = .ok (.iconst 0, 1) := by decide +kernel
theorem d_Mod_meetings_3 : decode b_Mod_meetings 3 = .ok (.istore_n 2, 1) := by decide +kernel
theorem d_Mod_meetings_4 : decode b_Mod_meetings 4 = .ok (.iload_n 2, 1) := by decide +kernel
theorem d_Mod_meetings_5 : decode b_Mod_meetings 5 = .ok (.bipush 24, 2) := by decide +kernel
theorem d_Mod_meetings_7 : decode b_Mod_meetings 7 = .ok (.if_icmp .ge 60, 3) := by decide +kernel
theorem d_Mod_meetings_10 : decode b_Mod_meetings 10 = .ok (.iload_n 2, 1) := by decide +kernel
theorem d_Mod_meetings_11 : decode b_Mod_meetings 11 = .ok (.iconst 1, 1) := by decide +kernel
