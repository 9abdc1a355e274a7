theorem d_PS_forbiddenLines_34 : decode b_PS_forbiddenLines 34 = .ok (.aload_n 0, 1) := by decide +kernel
theorem d_PS_forbiddenLines_35 : decode b_PS_forbiddenLines 35 = .ok (.iload_n 3, 1) := by decide +kernel
theorem d_PS_forbiddenLines_36 : decode b_PS_forbiddenLines 36 = .ok (.invokevirtual 120, 3) := by decide +kernel
theorem d_PS_forbiddenLines_39 : decode b_PS_forbiddenLines 39 = .ok (.ifCond .ne 5, 3) := by decide +kernel
theorem d_PS_forbiddenLines_42 : decode b_PS_forbiddenLines 42 = .ok (.iload_n 3, 1) := by decide +kernel
theorem d_PS_forbiddenLines_43 : decode b_PS_forbiddenLines 43 = .ok (.istore_n 1, 1) := by decide +kernel
theorem d_PS_forbiddenLines_44 : decode b_PS_forbiddenLines 44 = .ok (.iinc 2 1, 3) := by decide +kernel
theorem d_PS_forbiddenLines_47 : decode b_PS_forbiddenLines 47 = .ok (.goto (-27), 3) := by decide +kernel
theorem d_PS_forbiddenLines_50 : decode b_PS_forbiddenLines 50 = .ok (.iload_n 1, 1) := by decide +kernel
theorem d_PS_forbiddenLines_51 : decode b_PS_forbiddenLines 51 = .ok (.ireturn, 1) := by decide +kernel
theorem d_PS_freeNumber_0 : decode b_PS_freeNumber 0 = .ok (.iconst 0, 1) := by decide +kernel
theorem d_PS_freeNumber_1 : decode b_PS_freeNumber 1 = .ok (.istore_n 1, 1) := by decide +kernel
theorem d_PS_freeNumber_2 : decode b_PS_freeNumber 2 = .ok (.iload_n 1, 1) := by decide +kernel
theorem d_PS_freeNumber_3 : decode b_PS_freeNumber 3 = .ok (.bipush 24, 2) := by decide +kernel
theorem d_PS_freeNumber_5 : decode b_PS_freeNumber 5 = .ok (.if_icmp .ge 22, 3) := by decide +kernel
theorem d_PS_freeNumber_8 : decode b_PS_freeNumber 8 = .ok (.aload_n 0, 1) := by decide +kernel
theorem d_PS_freeNumber_9 : decode b_PS_freeNumber 9 = .ok (.getfield 48, 3) := by decide +kernel
theorem d_PS_freeNumber_12 : decode b_PS_freeNumber 12 = .ok (.iload_n 1, 1) := by decide +kernel
theorem d_PS_freeNumber_13 : decode b_PS_freeNumber 13 = .ok (.invokestatic 62, 3) := by decide +kernel
theorem d_PS_freeNumber_16 : decode b_PS_freeNumber 16 = .ok (.ifCond .ne 5, 3) := by decide +kernel
theorem d_PS_freeNumber_19 : decode b_PS_freeNumber 19 = .ok (.iload_n 1, 1) := by decide +kernel
theorem d_PS_freeNumber_20 : decode b_PS_freeNumber 20 = .ok (.ireturn, 1) := by decide +kernel
theorem d_PS_freeNumber_21 : decode b_PS_freeNumber 21 = .ok (.iinc 1 1, 3) := by decide +kernel
theorem d_PS_freeNumber_24 : decode b_PS_freeNumber 24 = .ok (.goto (-22), 3) := by decide +kernel
theorem d_PS_freeNumber_27 : decode b_PS_freeNumber 27 = .ok (.iconst (-1), 1) := by decide +kernel
theorem d_PS_freeNumber_28 : decode b_PS_freeNumber 28 = .ok (.ireturn, 1) := by decide +kernel
theorem d_PS_hinge_0 : decode b_PS_hinge 0 = .ok (.aload_n 0, 1) := by decide +kernel
theorem d_PS_hinge_1 : decode b_PS_hinge 1 = .ok (.iload_n 1, 1) := by decide +kernel
theorem d_PS_hinge_2 : decode b_PS_hinge 2 = .ok (.invokevirtual 77, 3) := by decide +kernel
theorem d_PS_hinge_5 : decode b_PS_hinge 5 = .ok (.ifCond .ne 13, 3) := by decide +kernel
theorem d_PS_hinge_8 : decode b_PS_hinge 8 = .ok (.new 80, 3) := by decide +kernel
theorem d_PS_hinge_11 : decode b_PS_hinge 11 = .ok (.dup, 1) := by decide +kernel
theorem d_PS_hinge_12 : decode b_PS_hinge 12 = .ok (.ldc 113, 2) := by decide +kernel
theorem d_PS_hinge_14 : decode b_PS_hinge 14 = .ok (.invokespecial 84, 3) := by decide +kernel
theorem d_PS_hinge_17 : decode b_PS_hinge 17 = .ok (.athrow, 1) := by decide +kernel
theorem d_PS_hinge_18 : decode b_PS_hinge 18 = .ok (.aload_n 0, 1) := by decide +kernel
theorem d_PS_hinge_19 : decode b_PS_hinge 19 = .ok (.aload_n 0, 1) := by decide +kernel
theorem d_PS_hinge_20 : decode b_PS_hinge 20 = .ok (.getfield 44, 3) := by decide +kernel
theorem d_PS_hinge_23 : decode b_PS_hinge 23 = .ok (.iconst 1, 1) := by decide +kernel
theorem d_PS_hinge_24 : decode b_PS_hinge 24 = .ok (.iload_n 1, 1) := by decide +kernel
theorem d_PS_hinge_25 : decode b_PS_hinge 25 = .ok (.ishl, 1) := by decide +kernel
theorem d_PS_hinge_26 : decode b_PS_hinge 26 = .ok (.iconst (-1), 1) := by decide +kernel
theorem d_PS_hinge_27 : decode b_PS_hinge 27 = .ok (.ixor, 1) := by decide +kernel
theorem d_PS_hinge_28 : decode b_PS_hinge 28 = .ok (.iand, 1) := by decide +kernel
theorem d_PS_hinge_29 : decode b_PS_hinge 29 = .ok (.aload_n 0, 1) := by decide +kernel
theorem d_PS_hinge_30 : decode b_PS_hinge 30 = .ok (.getfield 48, 3) := by decide +kernel
theorem d_PS_hinge_33 : decode b_PS_hinge 33 = .ok (.invokevirtual 141, 3) := by decide +kernel
theorem d_PS_hinge_36 : decode b_PS_hinge 36 = .ok (.aload_n 0, 1) := by decide +kernel
theorem d_PS_hinge_37 : decode b_PS_hinge 37 = .ok (.aload_n 0, 1) := by decide +kernel
theorem d_PS_hinge_38 : decode b_PS_hinge 38 = .ok (.getfield 44, 3) := by decide +kernel
theorem d_PS_hinge_41 : decode b_PS_hinge 41 = .ok (.aload_n 0, 1) := by decide +kernel
theorem d_PS_hinge_42 : decode b_PS_hinge 42 = .ok (.getfield 48, 3) := by decide +kernel
theorem d_PS_hinge_45 : decode b_PS_hinge 45 = .ok (.invokevirtual 141, 3) := by decide +kernel
theorem d_PS_hinge_48 : decode b_PS_hinge 48 = .ok (.if_icmp .le 7, 3) := by decide +kernel
theorem d_PS_hinge_51 : decode b_PS_hinge 51 = .ok (.iconst 1, 1) := by decide +kernel
theorem d_PS_hinge_52 : decode b_PS_hinge 52 = .ok (.goto 4, 3) := by decide +kernel
theorem d_PS_hinge_55 : decode b_PS_hinge 55 = .ok (.iconst 0, 1) := by decide +kernel
theorem d_PS_hinge_56 : decode b_PS_hinge 56 = .ok (.ireturn, 1) := by decide +kernel
theorem d_PS_isEnd_0 : decode b_PS_isEnd 0 = .ok (.aload_n 0, 1) := by decide +kernel
theorem d_PS_isEnd_1 : decode b_PS_isEnd 1 = .ok (.getfield 9, 3) := by decide +kernel
theorem d_PS_isEnd_4 : decode b_PS_isEnd 4 = .ok (.iload_n 2, 1) := by decide +kernel
theorem d_PS_isEnd_5 : decode b_PS_isEnd 5 = .ok (.iaload, 1) := by decide +kernel
theorem d_PS_isEnd_6 : decode b_PS_isEnd 6 = .ok (.iload_n 1, 1) := by decide +kernel
theorem d_PS_isEnd_7 : decode b_PS_isEnd 7 = .ok (.if_icmp .eq 13, 3) := by decide +kernel
theorem d_PS_isEnd_10 : decode b_PS_isEnd 10 = .ok (.aload_n 0, 1) := by decide +kernel
theorem d_PS_isEnd_11 : decode b_PS_isEnd 11 = .ok (.getfield 13, 3) := by decide +kernel
theorem d_PS_isEnd_14 : decode b_PS_isEnd 14 = .ok (.iload_n 2, 1) := by decide +kernel
theorem d_PS_isEnd_15 : decode b_PS_isEnd 15 = .ok (.iaload, 1) := by decide +kernel
theorem d_PS_isEnd_16 : decode b_PS_isEnd 16 = .ok (.iload_n 1, 1) := by decide +kernel
theorem d_PS_isEnd_17 : decode b_PS_isEnd 17 = .ok (.if_icmp .ne 7, 3) := by decide +kernel
theorem d_PS_isEnd_20 : decode b_PS_isEnd 20 = .ok (.iconst 1, 1) := by decide +kernel
theorem d_PS_isEnd_21 : decode b_PS_isEnd 21 = .ok (.goto 4, 3) := by decide +kernel
theorem d_PS_isEnd_24 : decode b_PS_isEnd 24 = .ok (.iconst 0, 1) := by decide +kernel
theorem d_PS_isEnd_25 : decode b_PS_isEnd 25 = .ok (.ireturn, 1) := by decide +kernel
theorem d_PS_joined_0 : decode b_PS_joined 0 = .ok (.aload_n 0, 1) := by decide +kernel
theorem d_PS_joined_1 : decode b_PS_joined 1 = .ok (.iload_n 1, 1) := by decide +kernel
theorem d_PS_joined_2 : decode b_PS_joined 2 = .ok (.invokevirtual 115, 3) := by decide +kernel
theorem d_PS_joined_5 : decode b_PS_joined 5 = .ok (.aload_n 0, 1) := by decide +kernel
theorem d_PS_joined_6 : decode b_PS_joined 6 = .ok (.iload_n 2, 1) := by decide +kernel
theorem d_PS_joined_7 : decode b_PS_joined 7 = .ok (.invokevirtual 115, 3) := by decide +kernel
theorem d_PS_joined_10 : decode b_PS_joined 10 = .ok (.iand, 1) := by decide +kernel
theorem d_PS_joined_11 : decode b_PS_joined 11 = .ok (.ifCond .eq 7, 3) := by decide +kernel
theorem d_PS_joined_14 : decode b_PS_joined 14 = .ok (.iconst 1, 1) := by decide +kernel
theorem d_PS_joined_15 : decode b_PS_joined 15 = .ok (.goto 4, 3) := by decide +kernel
theorem d_PS_joined_18 : decode b_PS_joined 18 = .ok (.iconst 0, 1) := by decide +kernel
theorem d_PS_joined_19 : decode b_PS_joined 19 = .ok (.ireturn, 1) := by decide +kernel
theorem d_PS_liesWrongly_0 : decode b_PS_liesWrongly 0 = .ok (.iconst 0, 1) := by decide +kernel
theorem d_PS_liesWrongly_1 : decode b_PS_liesWrongly 1 = .ok (.istore_n 2, 1) := by decide +kernel
theorem d_PS_liesWrongly_2 : decode b_PS_liesWrongly 2 = .ok (.iload_n 2, 1) := by decide +kernel
theorem d_PS_liesWrongly_3 : decode b_PS_liesWrongly 3 = .ok (.bipush 10, 2) := by decide +kernel
theorem d_PS_liesWrongly_5 : decode b_PS_liesWrongly 5 = .ok (.if_icmp .ge 39, 3) := by decide +kernel
theorem d_PS_liesWrongly_8 : decode b_PS_liesWrongly 8 = .ok (.iload_n 2, 1) := by decide +kernel
theorem d_PS_liesWrongly_9 : decode b_PS_liesWrongly 9 = .ok (.iload_n 1, 1) := by decide +kernel
theorem d_PS_liesWrongly_10 : decode b_PS_liesWrongly 10 = .ok (.if_icmp .eq 28, 3) := by decide +kernel
theorem d_PS_liesWrongly_13 : decode b_PS_liesWrongly 13 = .ok (.aload_n 0, 1) := by decide +kernel
theorem d_PS_liesWrongly_14 : decode b_PS_liesWrongly 14 = .ok (.getfield 44, 3) := by decide +kernel
theorem d_PS_liesWrongly_17 : decode b_PS_liesWrongly 17 = .ok (.iload_n 2, 1) := by decide +kernel
theorem d_PS_liesWrongly_18 : decode b_PS_liesWrongly 18 = .ok (.invokestatic 62, 3) := by decide +kernel
theorem d_PS_liesWrongly_21 : decode b_PS_liesWrongly 21 = .ok (.ifCond .eq 17, 3) := by decide +kernel
theorem d_PS_liesWrongly_24 : decode b_PS_liesWrongly 24 = .ok (.aload_n 0, 1) := by decide +kernel
theorem d_PS_liesWrongly_25 : decode b_PS_liesWrongly 25 = .ok (.getfield 40, 3) := by decide +kernel
theorem d_PS_liesWrongly_28 : decode b_PS_liesWrongly 28 = .ok (.iload_n 1, 1) := by decide +kernel
theorem d_PS_liesWrongly_29 : decode b_PS_liesWrongly 29 = .ok (.iload_n 2, 1) := by decide +kernel
theorem d_PS_liesWrongly_30 : decode b_PS_liesWrongly 30 = .ok (.invokevirtual 231, 3) := by decide +kernel
theorem d_PS_liesWrongly_33 : decode b_PS_liesWrongly 33 = .ok (.ifCond .eq 5, 3) := by decide +kernel
theorem d_PS_liesWrongly_36 : decode b_PS_liesWrongly 36 = .ok (.iconst 1, 1) := by decide +kernel
theorem d_PS_liesWrongly_37 : decode b_PS_liesWrongly 37 = .ok (.ireturn, 1) := by decide +kernel
theorem d_PS_liesWrongly_38 : decode b_PS_liesWrongly 38 = .ok (.iinc 2 1, 3) := by decide +kernel
theorem d_PS_liesWrongly_41 : decode b_PS_liesWrongly 41 = .ok (.goto (-39), 3) := by decide +kernel
theorem d_PS_liesWrongly_44 : decode b_PS_liesWrongly 44 = .ok (.iconst 0, 1) := by decide +kernel
theorem d_PS_liesWrongly_45 : decode b_PS_liesWrongly 45 = .ok (.istore_n 2, 1) := by decide +kernel
theorem d_PS_liesWrongly_46 : decode b_PS_liesWrongly 46 = .ok (.iload_n 2, 1) := by decide +kernel
theorem d_PS_liesWrongly_47 : decode b_PS_liesWrongly 47 = .ok (.bipush 24, 2) := by decide +kernel
theorem d_PS_liesWrongly_49 : decode b_PS_liesWrongly 49 = .ok (.if_icmp .ge 54, 3) := by decide +kernel
theorem d_PS_liesWrongly_52 : decode b_PS_liesWrongly 52 = .ok (.aload_n 0, 1) := by decide +kernel
theorem d_PS_liesWrongly_53 : decode b_PS_liesWrongly 53 = .ok (.getfield 48, 3) := by decide +kernel
theorem d_PS_liesWrongly_56 : decode b_PS_liesWrongly 56 = .ok (.iload_n 2, 1) := by decide +kernel
theorem d_PS_liesWrongly_57 : decode b_PS_liesWrongly 57 = .ok (.invokestatic 62, 3) := by decide +kernel
theorem d_PS_liesWrongly_60 : decode b_PS_liesWrongly 60 = .ok (.ifCond .eq 37, 3) := by decide +kernel
theorem d_PS_liesWrongly_63 : decode b_PS_liesWrongly 63 = .ok (.aload_n 0, 1) := by decide +kernel
theorem d_PS_liesWrongly_64 : decode b_PS_liesWrongly 64 = .ok (.iload_n 1, 1) := by decide +kernel
theorem d_PS_liesWrongly_65 : decode b_PS_liesWrongly 65 = .ok (.iload_n 2, 1) := by decide +kernel
theorem d_PS_liesWrongly_66 : decode b_PS_liesWrongly 66 = .ok (.invokevirtual 208, 3) := by decide +kernel
theorem d_PS_liesWrongly_69 : decode b_PS_liesWrongly 69 = .ok (.ifCond .ne 28, 3) := by decide +kernel
theorem d_PS_liesWrongly_72 : decode b_PS_liesWrongly 72 = .ok (.aload_n 0, 1) := by decide +kernel
theorem d_PS_liesWrongly_73 : decode b_PS_liesWrongly 73 = .ok (.getfield 40, 3) := by decide +kernel
theorem d_PS_liesWrongly_76 : decode b_PS_liesWrongly 76 = .ok (.iload_n 1, 1) := by decide +kernel
theorem d_PS_liesWrongly_77 : decode b_PS_liesWrongly 77 = .ok (.aload_n 0, 1) := by decide +kernel
theorem d_PS_liesWrongly_78 : decode b_PS_liesWrongly 78 = .ok (.getfield 9, 3) := by decide +kernel
theorem d_PS_liesWrongly_81 : decode b_PS_liesWrongly 81 = .ok (.iload_n 2, 1) := by decide +kernel
theorem d_PS_liesWrongly_82 : decode b_PS_liesWrongly 82 = .ok (.iaload, 1) := by decide +kernel
theorem d_PS_liesWrongly_83 : decode b_PS_liesWrongly 83 = .ok (.aload_n 0, 1) := by decide +kernel
theorem d_PS_liesWrongly_84 : decode b_PS_liesWrongly 84 = .ok (.getfield 13, 3) := by decide +kernel
theorem d_PS_liesWrongly_87 : decode b_PS_liesWrongly 87 = .ok (.iload_n 2, 1) := by decide +kernel
theorem d_PS_liesWrongly_88 : decode b_PS_liesWrongly 88 = .ok (.iaload, 1) := by decide +kernel
theorem d_PS_liesWrongly_89 : decode b_PS_liesWrongly 89 = .ok (.invokevirtual 234, 3) := by decide +kernel
theorem d_PS_liesWrongly_92 : decode b_PS_liesWrongly 92 = .ok (.ifCond .eq 5, 3) := by decide +kernel
theorem d_PS_liesWrongly_95 : decode b_PS_liesWrongly 95 = .ok (.iconst 1, 1) := by decide +kernel
theorem d_PS_liesWrongly_96 : decode b_PS_liesWrongly 96 = .ok (.ireturn, 1) := by decide +kernel
theorem d_PS_liesWrongly_97 : decode b_PS_liesWrongly 97 = .ok (.iinc 2 1, 3) := by decide +kernel
theorem d_PS_liesWrongly_100 : decode b_PS_liesWrongly 100 = .ok (.goto (-54), 3) := by decide +kernel
theorem d_PS_liesWrongly_103 : decode b_PS_liesWrongly 103 = .ok (.iconst 0, 1) := by decide +kernel
theorem d_PS_liesWrongly_104 : decode b_PS_liesWrongly 104 = .ok (.ireturn, 1) := by decide +kernel
theorem d_PS_line_0 : decode b_PS_line 0 = .ok (.aload_n 0, 1) := by decide +kernel
theorem d_PS_line_1 : decode b_PS_line 1 = .ok (.iload_n 1, 1) := by decide +kernel
theorem d_PS_line_2 : decode b_PS_line 2 = .ok (.invokevirtual 77, 3) := by decide +kernel
theorem d_PS_line_5 : decode b_PS_line 5 = .ok (.ifCond .eq 11, 3) := by decide +kernel
theorem d_PS_line_8 : decode b_PS_line 8 = .ok (.aload_n 0, 1) := by decide +kernel
theorem d_PS_line_9 : decode b_PS_line 9 = .ok (.iload_n 2, 1) := by decide +kernel
theorem d_PS_line_10 : decode b_PS_line 10 = .ok (.invokevirtual 77, 3) := by decide +kernel
theorem d_PS_line_13 : decode b_PS_line 13 = .ok (.ifCond .ne 13, 3) := by decide +kernel
theorem d_PS_line_16 : decode b_PS_line 16 = .ok (.new 80, 3) := by decide +kernel
theorem d_PS_line_19 : decode b_PS_line 19 = .ok (.dup, 1) := by decide +kernel
theorem d_PS_line_20 : decode b_PS_line 20 = .ok (.ldc 82, 2) := by decide +kernel
theorem d_PS_line_22 : decode b_PS_line 22 = .ok (.invokespecial 84, 3) := by decide +kernel
theorem d_PS_line_25 : decode b_PS_line 25 = .ok (.athrow, 1) := by decide +kernel
theorem d_PS_line_26 : decode b_PS_line 26 = .ok (.iload_n 1, 1) := by decide +kernel
theorem d_PS_line_27 : decode b_PS_line 27 = .ok (.iload_n 2, 1) := by decide +kernel
theorem d_PS_line_28 : decode b_PS_line 28 = .ok (.if_icmp .ne 13, 3) := by decide +kernel
theorem d_PS_line_31 : decode b_PS_line 31 = .ok (.new 85, 3) := by decide +kernel
theorem d_PS_line_34 : decode b_PS_line 34 = .ok (.dup, 1) := by decide +kernel
theorem d_PS_line_35 : decode b_PS_line 35 = .ok (.ldc 87, 2) := by decide +kernel
theorem d_PS_line_37 : decode b_PS_line 37 = .ok (.invokespecial 89, 3) := by decide +kernel
theorem d_PS_line_40 : decode b_PS_line 40 = .ok (.athrow, 1) := by decide +kernel
theorem d_PS_line_41 : decode b_PS_line 41 = .ok (.aload_n 0, 1) := by decide +kernel
theorem d_PS_line_42 : decode b_PS_line 42 = .ok (.invokevirtual 90, 3) := by decide +kernel
theorem d_PS_line_45 : decode b_PS_line 45 = .ok (.istore_n 3, 1) := by decide +kernel
theorem d_PS_line_46 : decode b_PS_line 46 = .ok (.iload_n 3, 1) := by decide +kernel
theorem d_PS_line_47 : decode b_PS_line 47 = .ok (.iconst (-1), 1) := by decide +kernel
theorem d_PS_line_48 : decode b_PS_line 48 = .ok (.if_icmp .eq 12, 3) := by decide +kernel
theorem d_PS_line_51 : decode b_PS_line 51 = .ok (.aload_n 0, 1) := by decide +kernel
theorem d_PS_line_52 : decode b_PS_line 52 = .ok (.iload_n 1, 1) := by decide +kernel
theorem d_PS_line_53 : decode b_PS_line 53 = .ok (.iload_n 2, 1) := by decide +kernel
theorem d_PS_line_54 : decode b_PS_line 54 = .ok (.invokevirtual 94, 3) := by decide +kernel
theorem d_PS_line_57 : decode b_PS_line 57 = .ok (.ifCond .eq 13, 3) := by decide +kernel
theorem d_PS_line_60 : decode b_PS_line 60 = .ok (.new 66, 3) := by decide +kernel
theorem d_PS_line_63 : decode b_PS_line 63 = .ok (.dup, 1) := by decide +kernel
theorem d_PS_line_64 : decode b_PS_line 64 = .ok (.ldc 97, 2) := by decide +kernel
theorem d_PS_line_66 : decode b_PS_line 66 = .ok (.invokespecial 70, 3) := by decide +kernel
theorem d_PS_line_69 : decode b_PS_line 69 = .ok (.athrow, 1) := by decide +kernel
theorem d_PS_line_70 : decode b_PS_line 70 = .ok (.aload_n 0, 1) := by decide +kernel
theorem d_PS_line_71 : decode b_PS_line 71 = .ok (.getfield 9, 3) := by decide +kernel
theorem d_PS_line_74 : decode b_PS_line 74 = .ok (.iload_n 3, 1) := by decide +kernel
theorem d_PS_line_75 : decode b_PS_line 75 = .ok (.iload_n 1, 1) := by decide +kernel
theorem d_PS_line_76 : decode b_PS_line 76 = .ok (.iload_n 2, 1) := by decide +kernel
theorem d_PS_line_77 : decode b_PS_line 77 = .ok (.invokestatic 99, 3) := by decide +kernel
theorem d_PS_line_80 : decode b_PS_line 80 = .ok (.iastore, 1) := by decide +kernel
theorem d_PS_line_81 : decode b_PS_line 81 = .ok (.aload_n 0, 1) := by decide +kernel
theorem d_PS_line_82 : decode b_PS_line 82 = .ok (.getfield 13, 3) := by decide +kernel
theorem d_PS_line_85 : decode b_PS_line 85 = .ok (.iload_n 3, 1) := by decide +kernel
theorem d_PS_line_86 : decode b_PS_line 86 = .ok (.iload_n 1, 1) := by decide +kernel
theorem d_PS_line_87 : decode b_PS_line 87 = .ok (.iload_n 2, 1) := by decide +kernel
theorem d_PS_line_88 : decode b_PS_line 88 = .ok (.invokestatic 105, 3) := by decide +kernel
theorem d_PS_line_91 : decode b_PS_line 91 = .ok (.iastore, 1) := by decide +kernel
theorem d_PS_line_92 : decode b_PS_line 92 = .ok (.aload_n 0, 1) := by decide +kernel
theorem d_PS_line_93 : decode b_PS_line 93 = .ok (.dup, 1) := by decide +kernel
theorem d_PS_line_94 : decode b_PS_line 94 = .ok (.getfield 48, 3) := by decide +kernel
theorem d_PS_line_97 : decode b_PS_line 97 = .ok (.iconst 1, 1) := by decide +kernel
theorem d_PS_line_98 : decode b_PS_line 98 = .ok (.iload_n 3, 1) := by decide +kernel
theorem d_PS_line_99 : decode b_PS_line 99 = .ok (.ishl, 1) := by decide +kernel
theorem d_PS_line_100 : decode b_PS_line 100 = .ok (.ior, 1) := by decide +kernel
theorem d_PS_line_101 : decode b_PS_line 101 = .ok (.putfield 48, 3) := by decide +kernel
theorem d_PS_line_104 : decode b_PS_line 104 = .ok (.iload_n 3, 1) := by decide +kernel
theorem d_PS_line_105 : decode b_PS_line 105 = .ok (.ireturn, 1) := by decide +kernel
theorem d_PS_lines_0 : decode b_PS_lines 0 = .ok (.aload_n 0, 1) := by decide +kernel
theorem d_PS_lines_1 : decode b_PS_lines 1 = .ok (.getfield 48, 3) := by decide +kernel
theorem d_PS_lines_4 : decode b_PS_lines 4 = .ok (.ireturn, 1) := by decide +kernel
theorem d_PS_linesOf_0 : decode b_PS_linesOf 0 = .ok (.iconst 0, 1) := by decide +kernel
theorem d_PS_linesOf_1 : decode b_PS_linesOf 1 = .ok (.istore_n 2, 1) := by decide +kernel
theorem d_PS_linesOf_2 : decode b_PS_linesOf 2 = .ok (.iconst 0, 1) := by decide +kernel
theorem d_PS_linesOf_3 : decode b_PS_linesOf 3 = .ok (.istore_n 3, 1) := by decide +kernel
theorem d_PS_linesOf_4 : decode b_PS_linesOf 4 = .ok (.iload_n 3, 1) := by decide +kernel
theorem d_PS_linesOf_5 : decode b_PS_linesOf 5 = .ok (.bipush 24, 2) := by decide +kernel
theorem d_PS_linesOf_7 : decode b_PS_linesOf 7 = .ok (.if_icmp .ge 35, 3) := by decide +kernel
theorem d_PS_linesOf_10 : decode b_PS_linesOf 10 = .ok (.aload_n 0, 1) := by decide +kernel
theorem d_PS_linesOf_11 : decode b_PS_linesOf 11 = .ok (.getfield 48, 3) := by decide +kernel
theorem d_PS_linesOf_14 : decode b_PS_linesOf 14 = .ok (.iload_n 3, 1) := by decide +kernel
theorem d_PS_linesOf_15 : decode b_PS_linesOf 15 = .ok (.invokestatic 62, 3) := by decide +kernel
theorem d_PS_linesOf_18 : decode b_PS_linesOf 18 = .ok (.ifCond .eq 18, 3) := by decide +kernel
theorem d_PS_linesOf_21 : decode b_PS_linesOf 21 = .ok (.aload_n 0, 1) := by decide +kernel
theorem d_PS_linesOf_22 : decode b_PS_linesOf 22 = .ok (.iload_n 1, 1) := by decide +kernel
theorem d_PS_linesOf_23 : decode b_PS_linesOf 23 = .ok (.iload_n 3, 1) := by decide +kernel
theorem d_PS_linesOf_24 : decode b_PS_linesOf 24 = .ok (.invokevirtual 208, 3) := by decide +kernel
theorem d_PS_linesOf_27 : decode b_PS_linesOf 27 = .ok (.ifCond .eq 9, 3) := by decide +kernel
theorem d_PS_linesOf_30 : decode b_PS_linesOf 30 = .ok (.iload_n 2, 1) := by decide +kernel
theorem d_PS_linesOf_31 : decode b_PS_linesOf 31 = .ok (.iconst 1, 1) := by decide +kernel
theorem d_PS_linesOf_32 : decode b_PS_linesOf 32 = .ok (.iload_n 3, 1) := by decide +kernel
theorem d_PS_linesOf_33 : decode b_PS_linesOf 33 = .ok (.ishl, 1) := by decide +kernel
theorem d_PS_linesOf_34 : decode b_PS_linesOf 34 = .ok (.ior, 1) := by decide +kernel
theorem d_PS_linesOf_35 : decode b_PS_linesOf 35 = .ok (.istore_n 2, 1) := by decide +kernel
theorem d_PS_linesOf_36 : decode b_PS_linesOf 36 = .ok (.iinc 3 1, 3) := by decide +kernel
theorem d_PS_linesOf_39 : decode b_PS_linesOf 39 = .ok (.goto (-35), 3) := by decide +kernel
theorem d_PS_linesOf_42 : decode b_PS_linesOf 42 = .ok (.iload_n 2, 1) := by decide +kernel
theorem d_PS_linesOf_43 : decode b_PS_linesOf 43 = .ok (.ireturn, 1) := by decide +kernel
theorem d_PS_meetWrongly_0 : decode b_PS_meetWrongly 0 = .ok (.aload_n 0, 1) := by decide +kernel
theorem d_PS_meetWrongly_1 : decode b_PS_meetWrongly 1 = .ok (.aload_n 0, 1) := by decide +kernel
theorem d_PS_meetWrongly_2 : decode b_PS_meetWrongly 2 = .ok (.getfield 9, 3) := by decide +kernel
theorem d_PS_meetWrongly_5 : decode b_PS_meetWrongly 5 = .ok (.iload_n 1, 1) := by decide +kernel
theorem d_PS_meetWrongly_6 : decode b_PS_meetWrongly 6 = .ok (.iaload, 1) := by decide +kernel
theorem d_PS_meetWrongly_7 : decode b_PS_meetWrongly 7 = .ok (.iload_n 2, 1) := by decide +kernel
theorem d_PS_meetWrongly_8 : decode b_PS_meetWrongly 8 = .ok (.invokevirtual 208, 3) := by decide +kernel
theorem d_PS_meetWrongly_11 : decode b_PS_meetWrongly 11 = .ok (.ifCond .eq 12, 3) := by decide +kernel
theorem d_PS_meetWrongly_14 : decode b_PS_meetWrongly 14 = .ok (.aload_n 0, 1) := by decide +kernel
theorem d_PS_meetWrongly_15 : decode b_PS_meetWrongly 15 = .ok (.getfield 9, 3) := by decide +kernel
theorem d_PS_meetWrongly_18 : decode b_PS_meetWrongly 18 = .ok (.iload_n 1, 1) := by decide +kernel
theorem d_PS_meetWrongly_19 : decode b_PS_meetWrongly 19 = .ok (.iaload, 1) := by decide +kernel
theorem d_PS_meetWrongly_20 : decode b_PS_meetWrongly 20 = .ok (.goto 27, 3) := by decide +kernel
theorem d_PS_meetWrongly_23 : decode b_PS_meetWrongly 23 = .ok (.aload_n 0, 1) := by decide +kernel
theorem d_PS_meetWrongly_24 : decode b_PS_meetWrongly 24 = .ok (.aload_n 0, 1) := by decide +kernel
theorem d_PS_meetWrongly_25 : decode b_PS_meetWrongly 25 = .ok (.getfield 13, 3) := by decide +kernel
