theorem d_Desk_across_0 : decode b_Desk_across 0 = .ok (.aload_n 0, 1) := by decide +kernel
theorem d_Desk_across_1 : decode b_Desk_across 1 = .ok (.getfield 9, 3) := by decide +kernel
theorem d_Desk_across_4 : decode b_Desk_across 4 = .ok (.iload_n 1, 1) := by decide +kernel
theorem d_Desk_across_5 : decode b_Desk_across 5 = .ok (.iaload, 1) := by decide +kernel
theorem d_Desk_across_6 : decode b_Desk_across 6 = .ok (.ireturn, 1) := by decide +kernel
theorem d_Desk_boxArea_0 : decode b_Desk_boxArea 0 = .ok (.bipush 30, 2) := by decide +kernel
theorem d_Desk_boxArea_2 : decode b_Desk_boxArea 2 = .ok (.istore_n 2, 1) := by decide +kernel
theorem d_Desk_boxArea_3 : decode b_Desk_boxArea 3 = .ok (.iconst 0, 1) := by decide +kernel
theorem d_Desk_boxArea_4 : decode b_Desk_boxArea 4 = .ok (.istore_n 3, 1) := by decide +kernel
theorem d_Desk_boxArea_5 : decode b_Desk_boxArea 5 = .ok (.bipush 30, 2) := by decide +kernel
theorem d_Desk_boxArea_7 : decode b_Desk_boxArea 7 = .ok (.istore 4, 2) := by decide +kernel
theorem d_Desk_boxArea_9 : decode b_Desk_boxArea 9 = .ok (.iconst 0, 1) := by decide +kernel
theorem d_Desk_boxArea_10 : decode b_Desk_boxArea 10 = .ok (.istore 5, 2) := by decide +kernel
theorem d_Desk_boxArea_12 : decode b_Desk_boxArea 12 = .ok (.iconst 0, 1) := by decide +kernel
theorem d_Desk_boxArea_13 : decode b_Desk_boxArea 13 = .ok (.istore 6, 2) := by decide +kernel
theorem d_Desk_boxArea_15 : decode b_Desk_boxArea 15 = .ok (.iload 6, 2) := by decide +kernel
theorem d_Desk_boxArea_17 : decode b_Desk_boxArea 17 = .ok (.bipush 10, 2) := by decide +kernel
theorem d_Desk_boxArea_19 : decode b_Desk_boxArea 19 = .ok (.if_icmp .ge 70, 3) := by decide +kernel
theorem d_Desk_boxArea_22 : decode b_Desk_boxArea 22 = .ok (.iload_n 1, 1) := by decide +kernel
theorem d_Desk_boxArea_23 : decode b_Desk_boxArea 23 = .ok (.iload 6, 2) := by decide +kernel
theorem d_Desk_boxArea_25 : decode b_Desk_boxArea 25 = .ok (.invokestatic 29, 3) := by decide +kernel
theorem d_Desk_boxArea_28 : decode b_Desk_boxArea 28 = .ok (.ifCond .eq 55, 3) := by decide +kernel
theorem d_Desk_boxArea_31 : decode b_Desk_boxArea 31 = .ok (.iload_n 2, 1) := by decide +kernel
theorem d_Desk_boxArea_32 : decode b_Desk_boxArea 32 = .ok (.aload_n 0, 1) := by decide +kernel
theorem d_Desk_boxArea_33 : decode b_Desk_boxArea 33 = .ok (.getfield 9, 3) := by decide +kernel
theorem d_Desk_boxArea_36 : decode b_Desk_boxArea 36 = .ok (.iload 6, 2) := by decide +kernel
theorem d_Desk_boxArea_38 : decode b_Desk_boxArea 38 = .ok (.iaload, 1) := by decide +kernel
theorem d_Desk_boxArea_39 : decode b_Desk_boxArea 39 = .ok (.invokestatic 33, 3) := by decide +kernel
theorem d_Desk_boxArea_42 : decode b_Desk_boxArea 42 = .ok (.istore_n 2, 1) := by decide +kernel
theorem d_Desk_boxArea_43 : decode b_Desk_boxArea 43 = .ok (.iload_n 3, 1) := by decide +kernel
theorem d_Desk_boxArea_44 : decode b_Desk_boxArea 44 = .ok (.aload_n 0, 1) := by decide +kernel
theorem d_Desk_boxArea_45 : decode b_Desk_boxArea 45 = .ok (.getfield 9, 3) := by decide +kernel
theorem d_Desk_boxArea_48 : decode b_Desk_boxArea 48 = .ok (.iload 6, 2) := by decide +kernel
theorem d_Desk_boxArea_50 : decode b_Desk_boxArea 50 = .ok (.iaload, 1) := by decide +kernel
theorem d_Desk_boxArea_51 : decode b_Desk_boxArea 51 = .ok (.invokestatic 39, 3) := by decide +kernel
theorem d_Desk_boxArea_54 : decode b_Desk_boxArea 54 = .ok (.istore_n 3, 1) := by decide +kernel
theorem d_Desk_boxArea_55 : decode b_Desk_boxArea 55 = .ok (.iload 4, 2) := by decide +kernel
theorem d_Desk_boxArea_57 : decode b_Desk_boxArea 57 = .ok (.aload_n 0, 1) := by decide +kernel
theorem d_Desk_boxArea_58 : decode b_Desk_boxArea 58 = .ok (.getfield 15, 3) := by decide +kernel
theorem d_Desk_boxArea_61 : decode b_Desk_boxArea 61 = .ok (.iload 6, 2) := by decide +kernel
theorem d_Desk_boxArea_63 : decode b_Desk_boxArea 63 = .ok (.iaload, 1) := by decide +kernel
theorem d_Desk_boxArea_64 : decode b_Desk_boxArea 64 = .ok (.invokestatic 33, 3) := by decide +kernel
theorem d_Desk_boxArea_67 : decode b_Desk_boxArea 67 = .ok (.istore 4, 2) := by decide +kernel
theorem d_Desk_boxArea_69 : decode b_Desk_boxArea 69 = .ok (.iload 5, 2) := by decide +kernel
theorem d_Desk_boxArea_71 : decode b_Desk_boxArea 71 = .ok (.aload_n 0, 1) := by decide +kernel
theorem d_Desk_boxArea_72 : decode b_Desk_boxArea 72 = .ok (.getfield 15, 3) := by decide +kernel
theorem d_Desk_boxArea_75 : decode b_Desk_boxArea 75 = .ok (.iload 6, 2) := by decide +kernel
theorem d_Desk_boxArea_77 : decode b_Desk_boxArea 77 = .ok (.iaload, 1) := by decide +kernel
theorem d_Desk_boxArea_78 : decode b_Desk_boxArea 78 = .ok (.invokestatic 39, 3) := by decide +kernel
theorem d_Desk_boxArea_81 : decode b_Desk_boxArea 81 = .ok (.istore 5, 2) := by decide +kernel
theorem d_Desk_boxArea_83 : decode b_Desk_boxArea 83 = .ok (.iinc 6 1, 3) := by decide +kernel
theorem d_Desk_boxArea_86 : decode b_Desk_boxArea 86 = .ok (.goto (-71), 3) := by decide +kernel
theorem d_Desk_boxArea_89 : decode b_Desk_boxArea 89 = .ok (.iload_n 3, 1) := by decide +kernel
theorem d_Desk_boxArea_90 : decode b_Desk_boxArea 90 = .ok (.iload_n 2, 1) := by decide +kernel
theorem d_Desk_boxArea_91 : decode b_Desk_boxArea 91 = .ok (.isub, 1) := by decide +kernel
theorem d_Desk_boxArea_92 : decode b_Desk_boxArea 92 = .ok (.iload 5, 2) := by decide +kernel
theorem d_Desk_boxArea_94 : decode b_Desk_boxArea 94 = .ok (.iload 4, 2) := by decide +kernel
theorem d_Desk_boxArea_96 : decode b_Desk_boxArea 96 = .ok (.isub, 1) := by decide +kernel
theorem d_Desk_boxArea_97 : decode b_Desk_boxArea 97 = .ok (.imul, 1) := by decide +kernel
theorem d_Desk_boxArea_98 : decode b_Desk_boxArea 98 = .ok (.ireturn, 1) := by decide +kernel
theorem d_Desk_isBetween_0 : decode b_Desk_isBetween 0 = .ok (.iload_n 0, 1) := by decide +kernel
theorem d_Desk_isBetween_1 : decode b_Desk_isBetween 1 = .ok (.iload_n 1, 1) := by decide +kernel
theorem d_Desk_isBetween_2 : decode b_Desk_isBetween 2 = .ok (.iload_n 2, 1) := by decide +kernel
theorem d_Desk_isBetween_3 : decode b_Desk_isBetween 3 = .ok (.invokestatic 33, 3) := by decide +kernel
theorem d_Desk_isBetween_6 : decode b_Desk_isBetween 6 = .ok (.if_icmp .lt 16, 3) := by decide +kernel
theorem d_Desk_isBetween_9 : decode b_Desk_isBetween 9 = .ok (.iload_n 0, 1) := by decide +kernel
theorem d_Desk_isBetween_10 : decode b_Desk_isBetween 10 = .ok (.iload_n 1, 1) := by decide +kernel
theorem d_Desk_isBetween_11 : decode b_Desk_isBetween 11 = .ok (.iload_n 2, 1) := by decide +kernel
theorem d_Desk_isBetween_12 : decode b_Desk_isBetween 12 = .ok (.invokestatic 39, 3) := by decide +kernel
theorem d_Desk_isBetween_15 : decode b_Desk_isBetween 15 = .ok (.if_icmp .gt 7, 3) := by decide +kernel
theorem d_Desk_isBetween_18 : decode b_Desk_isBetween 18 = .ok (.iconst 1, 1) := by decide +kernel
theorem d_Desk_isBetween_19 : decode b_Desk_isBetween 19 = .ok (.goto 4, 3) := by decide +kernel
theorem d_Desk_isBetween_22 : decode b_Desk_isBetween 22 = .ok (.iconst 0, 1) := by decide +kernel
theorem d_Desk_isBetween_23 : decode b_Desk_isBetween 23 = .ok (.ireturn, 1) := by decide +kernel
theorem d_Desk_liesOn_0 : decode b_Desk_liesOn 0 = .ok (.aload_n 0, 1) := by decide +kernel
theorem d_Desk_liesOn_1 : decode b_Desk_liesOn 1 = .ok (.iload_n 2, 1) := by decide +kernel
theorem d_Desk_liesOn_2 : decode b_Desk_liesOn 2 = .ok (.iload_n 3, 1) := by decide +kernel
theorem d_Desk_liesOn_3 : decode b_Desk_liesOn 3 = .ok (.iload_n 1, 1) := by decide +kernel
theorem d_Desk_liesOn_4 : decode b_Desk_liesOn 4 = .ok (.invokevirtual 18, 3) := by decide +kernel
theorem d_Desk_liesOn_7 : decode b_Desk_liesOn 7 = .ok (.ifCond .ne 55, 3) := by decide +kernel
theorem d_Desk_liesOn_10 : decode b_Desk_liesOn 10 = .ok (.aload_n 0, 1) := by decide +kernel
theorem d_Desk_liesOn_11 : decode b_Desk_liesOn 11 = .ok (.getfield 9, 3) := by decide +kernel
theorem d_Desk_liesOn_14 : decode b_Desk_liesOn 14 = .ok (.iload_n 1, 1) := by decide +kernel
theorem d_Desk_liesOn_15 : decode b_Desk_liesOn 15 = .ok (.iaload, 1) := by decide +kernel
theorem d_Desk_liesOn_16 : decode b_Desk_liesOn 16 = .ok (.aload_n 0, 1) := by decide +kernel
theorem d_Desk_liesOn_17 : decode b_Desk_liesOn 17 = .ok (.getfield 9, 3) := by decide +kernel
theorem d_Desk_liesOn_20 : decode b_Desk_liesOn 20 = .ok (.iload_n 2, 1) := by decide +kernel
theorem d_Desk_liesOn_21 : decode b_Desk_liesOn 21 = .ok (.iaload, 1) := by decide +kernel
theorem d_Desk_liesOn_22 : decode b_Desk_liesOn 22 = .ok (.aload_n 0, 1) := by decide +kernel
theorem d_Desk_liesOn_23 : decode b_Desk_liesOn 23 = .ok (.getfield 9, 3) := by decide +kernel
theorem d_Desk_liesOn_26 : decode b_Desk_liesOn 26 = .ok (.iload_n 3, 1) := by decide +kernel
theorem d_Desk_liesOn_27 : decode b_Desk_liesOn 27 = .ok (.iaload, 1) := by decide +kernel
theorem d_Desk_liesOn_28 : decode b_Desk_liesOn 28 = .ok (.invokestatic 22, 3) := by decide +kernel
theorem d_Desk_liesOn_31 : decode b_Desk_liesOn 31 = .ok (.ifCond .eq 31, 3) := by decide +kernel
theorem d_Desk_liesOn_34 : decode b_Desk_liesOn 34 = .ok (.aload_n 0, 1) := by decide +kernel
theorem d_Desk_liesOn_35 : decode b_Desk_liesOn 35 = .ok (.getfield 15, 3) := by decide +kernel
theorem d_Desk_liesOn_38 : decode b_Desk_liesOn 38 = .ok (.iload_n 1, 1) := by decide +kernel
theorem d_Desk_liesOn_39 : decode b_Desk_liesOn 39 = .ok (.iaload, 1) := by decide +kernel
theorem d_Desk_liesOn_40 : decode b_Desk_liesOn 40 = .ok (.aload_n 0, 1) := by decide +kernel
theorem d_Desk_liesOn_41 : decode b_Desk_liesOn 41 = .ok (.getfield 15, 3) := by decide +kernel
theorem d_Desk_liesOn_44 : decode b_Desk_liesOn 44 = .ok (.iload_n 2, 1) := by decide +kernel
theorem d_Desk_liesOn_45 : decode b_Desk_liesOn 45 = .ok (.iaload, 1) := by decide +kernel
theorem d_Desk_liesOn_46 : decode b_Desk_liesOn 46 = .ok (.aload_n 0, 1) := by decide +kernel
theorem d_Desk_liesOn_47 : decode b_Desk_liesOn 47 = .ok (.getfield 15, 3) := by decide +kernel
theorem d_Desk_liesOn_50 : decode b_Desk_liesOn 50 = .ok (.iload_n 3, 1) := by decide +kernel
theorem d_Desk_liesOn_51 : decode b_Desk_liesOn 51 = .ok (.iaload, 1) := by decide +kernel
theorem d_Desk_liesOn_52 : decode b_Desk_liesOn 52 = .ok (.invokestatic 22, 3) := by decide +kernel
theorem d_Desk_liesOn_55 : decode b_Desk_liesOn 55 = .ok (.ifCond .eq 7, 3) := by decide +kernel
theorem d_Desk_liesOn_58 : decode b_Desk_liesOn 58 = .ok (.iconst 1, 1) := by decide +kernel
theorem d_Desk_liesOn_59 : decode b_Desk_liesOn 59 = .ok (.goto 4, 3) := by decide +kernel
theorem d_Desk_liesOn_62 : decode b_Desk_liesOn 62 = .ok (.iconst 0, 1) := by decide +kernel
theorem d_Desk_liesOn_63 : decode b_Desk_liesOn 63 = .ok (.ireturn, 1) := by decide +kernel
theorem d_Desk_put_0 : decode b_Desk_put 0 = .ok (.aload_n 0, 1) := by decide +kernel
theorem d_Desk_put_1 : decode b_Desk_put 1 = .ok (.getfield 9, 3) := by decide +kernel
theorem d_Desk_put_4 : decode b_Desk_put 4 = .ok (.iload_n 1, 1) := by decide +kernel
theorem d_Desk_put_5 : decode b_Desk_put 5 = .ok (.iload_n 2, 1) := by decide +kernel
theorem d_Desk_put_6 : decode b_Desk_put 6 = .ok (.iastore, 1) := by decide +kernel
theorem d_Desk_put_7 : decode b_Desk_put 7 = .ok (.aload_n 0, 1) := by decide +kernel
theorem d_Desk_put_8 : decode b_Desk_put 8 = .ok (.getfield 15, 3) := by decide +kernel
theorem d_Desk_put_11 : decode b_Desk_put 11 = .ok (.iload_n 1, 1) := by decide +kernel
theorem d_Desk_put_12 : decode b_Desk_put 12 = .ok (.iload_n 3, 1) := by decide +kernel
theorem d_Desk_put_13 : decode b_Desk_put 13 = .ok (.iastore, 1) := by decide +kernel
theorem d_Desk_put_14 : decode b_Desk_put 14 = .ok (.return_, 1) := by decide +kernel
theorem d_Desk_samePlace_0 : decode b_Desk_samePlace 0 = .ok (.aload_n 0, 1) := by decide +kernel
theorem d_Desk_samePlace_1 : decode b_Desk_samePlace 1 = .ok (.getfield 9, 3) := by decide +kernel
theorem d_Desk_samePlace_4 : decode b_Desk_samePlace 4 = .ok (.iload_n 1, 1) := by decide +kernel
theorem d_Desk_samePlace_5 : decode b_Desk_samePlace 5 = .ok (.iaload, 1) := by decide +kernel
theorem d_Desk_samePlace_6 : decode b_Desk_samePlace 6 = .ok (.aload_n 0, 1) := by decide +kernel
theorem d_Desk_samePlace_7 : decode b_Desk_samePlace 7 = .ok (.getfield 9, 3) := by decide +kernel
theorem d_Desk_samePlace_10 : decode b_Desk_samePlace 10 = .ok (.iload_n 2, 1) := by decide +kernel
theorem d_Desk_samePlace_11 : decode b_Desk_samePlace 11 = .ok (.iaload, 1) := by decide +kernel
theorem d_Desk_samePlace_12 : decode b_Desk_samePlace 12 = .ok (.if_icmp .ne 22, 3) := by decide +kernel
theorem d_Desk_samePlace_15 : decode b_Desk_samePlace 15 = .ok (.aload_n 0, 1) := by decide +kernel
theorem d_Desk_samePlace_16 : decode b_Desk_samePlace 16 = .ok (.getfield 15, 3) := by decide +kernel
theorem d_Desk_samePlace_19 : decode b_Desk_samePlace 19 = .ok (.iload_n 1, 1) := by decide +kernel
theorem d_Desk_samePlace_20 : decode b_Desk_samePlace 20 = .ok (.iaload, 1) := by decide +kernel
theorem d_Desk_samePlace_21 : decode b_Desk_samePlace 21 = .ok (.aload_n 0, 1) := by decide +kernel
theorem d_Desk_samePlace_22 : decode b_Desk_samePlace 22 = .ok (.getfield 15, 3) := by decide +kernel
theorem d_Desk_samePlace_25 : decode b_Desk_samePlace 25 = .ok (.iload_n 2, 1) := by decide +kernel
theorem d_Desk_samePlace_26 : decode b_Desk_samePlace 26 = .ok (.iaload, 1) := by decide +kernel
theorem d_Desk_samePlace_27 : decode b_Desk_samePlace 27 = .ok (.if_icmp .ne 7, 3) := by decide +kernel
theorem d_Desk_samePlace_30 : decode b_Desk_samePlace 30 = .ok (.iconst 1, 1) := by decide +kernel
theorem d_Desk_samePlace_31 : decode b_Desk_samePlace 31 = .ok (.goto 4, 3) := by decide +kernel
theorem d_Desk_samePlace_34 : decode b_Desk_samePlace 34 = .ok (.iconst 0, 1) := by decide +kernel
theorem d_Desk_samePlace_35 : decode b_Desk_samePlace 35 = .ok (.ireturn, 1) := by decide +kernel
theorem d_Desk_sameWay_0 : decode b_Desk_sameWay 0 = .ok (.aload_n 0, 1) := by decide +kernel
theorem d_Desk_sameWay_1 : decode b_Desk_sameWay 1 = .ok (.getfield 9, 3) := by decide +kernel
theorem d_Desk_sameWay_4 : decode b_Desk_sameWay 4 = .ok (.iload_n 2, 1) := by decide +kernel
theorem d_Desk_sameWay_5 : decode b_Desk_sameWay 5 = .ok (.iaload, 1) := by decide +kernel
theorem d_Desk_sameWay_6 : decode b_Desk_sameWay 6 = .ok (.aload_n 0, 1) := by decide +kernel
theorem d_Desk_sameWay_7 : decode b_Desk_sameWay 7 = .ok (.getfield 9, 3) := by decide +kernel
theorem d_Desk_sameWay_10 : decode b_Desk_sameWay 10 = .ok (.iload_n 1, 1) := by decide +kernel
theorem d_Desk_sameWay_11 : decode b_Desk_sameWay 11 = .ok (.iaload, 1) := by decide +kernel
theorem d_Desk_sameWay_12 : decode b_Desk_sameWay 12 = .ok (.isub, 1) := by decide +kernel
theorem d_Desk_sameWay_13 : decode b_Desk_sameWay 13 = .ok (.aload_n 0, 1) := by decide +kernel
theorem d_Desk_sameWay_14 : decode b_Desk_sameWay 14 = .ok (.getfield 9, 3) := by decide +kernel
theorem d_Desk_sameWay_17 : decode b_Desk_sameWay 17 = .ok (.iload_n 3, 1) := by decide +kernel
theorem d_Desk_sameWay_18 : decode b_Desk_sameWay 18 = .ok (.iaload, 1) := by decide +kernel
theorem d_Desk_sameWay_19 : decode b_Desk_sameWay 19 = .ok (.aload_n 0, 1) := by decide +kernel
theorem d_Desk_sameWay_20 : decode b_Desk_sameWay 20 = .ok (.getfield 9, 3) := by decide +kernel
theorem d_Desk_sameWay_23 : decode b_Desk_sameWay 23 = .ok (.iload_n 1, 1) := by decide +kernel
theorem d_Desk_sameWay_24 : decode b_Desk_sameWay 24 = .ok (.iaload, 1) := by decide +kernel
theorem d_Desk_sameWay_25 : decode b_Desk_sameWay 25 = .ok (.isub, 1) := by decide +kernel
theorem d_Desk_sameWay_26 : decode b_Desk_sameWay 26 = .ok (.imul, 1) := by decide +kernel
theorem d_Desk_sameWay_27 : decode b_Desk_sameWay 27 = .ok (.aload_n 0, 1) := by decide +kernel
theorem d_Desk_sameWay_28 : decode b_Desk_sameWay 28 = .ok (.getfield 15, 3) := by decide +kernel
theorem d_Desk_sameWay_31 : decode b_Desk_sameWay 31 = .ok (.iload_n 2, 1) := by decide +kernel
theorem d_Desk_sameWay_32 : decode b_Desk_sameWay 32 = .ok (.iaload, 1) := by decide +kernel
theorem d_Desk_sameWay_33 : decode b_Desk_sameWay 33 = .ok (.aload_n 0, 1) := by decide +kernel
theorem d_Desk_sameWay_34 : decode b_Desk_sameWay 34 = .ok (.getfield 15, 3) := by decide +kernel
theorem d_Desk_sameWay_37 : decode b_Desk_sameWay 37 = .ok (.iload_n 1, 1) := by decide +kernel
theorem d_Desk_sameWay_38 : decode b_Desk_sameWay 38 = .ok (.iaload, 1) := by decide +kernel
theorem d_Desk_sameWay_39 : decode b_Desk_sameWay 39 = .ok (.isub, 1) := by decide +kernel
theorem d_Desk_sameWay_40 : decode b_Desk_sameWay 40 = .ok (.aload_n 0, 1) := by decide +kernel
theorem d_Desk_sameWay_41 : decode b_Desk_sameWay 41 = .ok (.getfield 15, 3) := by decide +kernel
theorem d_Desk_sameWay_44 : decode b_Desk_sameWay 44 = .ok (.iload_n 3, 1) := by decide +kernel
theorem d_Desk_sameWay_45 : decode b_Desk_sameWay 45 = .ok (.iaload, 1) := by decide +kernel
theorem d_Desk_sameWay_46 : decode b_Desk_sameWay 46 = .ok (.aload_n 0, 1) := by decide +kernel
theorem d_Desk_sameWay_47 : decode b_Desk_sameWay 47 = .ok (.getfield 15, 3) := by decide +kernel
theorem d_Desk_sameWay_50 : decode b_Desk_sameWay 50 = .ok (.iload_n 1, 1) := by decide +kernel
theorem d_Desk_sameWay_51 : decode b_Desk_sameWay 51 = .ok (.iaload, 1) := by decide +kernel
theorem d_Desk_sameWay_52 : decode b_Desk_sameWay 52 = .ok (.isub, 1) := by decide +kernel
theorem d_Desk_sameWay_53 : decode b_Desk_sameWay 53 = .ok (.imul, 1) := by decide +kernel
theorem d_Desk_sameWay_54 : decode b_Desk_sameWay 54 = .ok (.iadd, 1) := by decide +kernel
theorem d_Desk_sameWay_55 : decode b_Desk_sameWay 55 = .ok (.istore 4, 2) := by decide +kernel
theorem d_Desk_sameWay_57 : decode b_Desk_sameWay 57 = .ok (.aload_n 0, 1) := by decide +kernel
theorem d_Desk_sameWay_58 : decode b_Desk_sameWay 58 = .ok (.iload_n 1, 1) := by decide +kernel
theorem d_Desk_sameWay_59 : decode b_Desk_sameWay 59 = .ok (.iload_n 2, 1) := by decide +kernel
theorem d_Desk_sameWay_60 : decode b_Desk_sameWay 60 = .ok (.iload_n 3, 1) := by decide +kernel
theorem d_Desk_sameWay_61 : decode b_Desk_sameWay 61 = .ok (.invokevirtual 18, 3) := by decide +kernel
theorem d_Desk_sameWay_64 : decode b_Desk_sameWay 64 = .ok (.ifCond .ne 12, 3) := by decide +kernel
theorem d_Desk_sameWay_67 : decode b_Desk_sameWay 67 = .ok (.iload 4, 2) := by decide +kernel
theorem d_Desk_sameWay_69 : decode b_Desk_sameWay 69 = .ok (.ifCond .le 7, 3) := by decide +kernel
theorem d_Desk_sameWay_72 : decode b_Desk_sameWay 72 = .ok (.iconst 1, 1) := by decide +kernel
theorem d_Desk_sameWay_73 : decode b_Desk_sameWay 73 = .ok (.goto 4, 3) := by decide +kernel
theorem d_Desk_sameWay_76 : decode b_Desk_sameWay 76 = .ok (.iconst 0, 1) := by decide +kernel
theorem d_Desk_sameWay_77 : decode b_Desk_sameWay 77 = .ok (.ireturn, 1) := by decide +kernel
theorem d_Desk_touch_0 : decode b_Desk_touch 0 = .ok (.aload_n 0, 1) := by decide +kernel
theorem d_Desk_touch_1 : decode b_Desk_touch 1 = .ok (.iload_n 1, 1) := by decide +kernel
theorem d_Desk_touch_2 : decode b_Desk_touch 2 = .ok (.iload_n 3, 1) := by decide +kernel
theorem d_Desk_touch_3 : decode b_Desk_touch 3 = .ok (.iload 4, 2) := by decide +kernel
theorem d_Desk_touch_5 : decode b_Desk_touch 5 = .ok (.invokevirtual 26, 3) := by decide +kernel
theorem d_Desk_touch_8 : decode b_Desk_touch 8 = .ok (.ifCond .ne 35, 3) := by decide +kernel
theorem d_Desk_touch_11 : decode b_Desk_touch 11 = .ok (.aload_n 0, 1) := by decide +kernel
theorem d_Desk_touch_12 : decode b_Desk_touch 12 = .ok (.iload_n 2, 1) := by decide +kernel
theorem d_Desk_touch_13 : decode b_Desk_touch 13 = .ok (.iload_n 3, 1) := by decide +kernel
theorem d_Desk_touch_14 : decode b_Desk_touch 14 = .ok (.iload 4, 2) := by decide +kernel
theorem d_Desk_touch_16 : decode b_Desk_touch 16 = .ok (.invokevirtual 26, 3) := by decide +kernel
theorem d_Desk_touch_19 : decode b_Desk_touch 19 = .ok (.ifCond .ne 24, 3) := by decide +kernel
theorem d_Desk_touch_22 : decode b_Desk_touch 22 = .ok (.aload_n 0, 1) := by decide +kernel
theorem d_Desk_touch_23 : decode b_Desk_touch 23 = .ok (.iload_n 3, 1) := by decide +kernel
theorem d_Desk_touch_24 : decode b_Desk_touch 24 = .ok (.iload_n 1, 1) := by decide +kernel
theorem d_Desk_touch_25 : decode b_Desk_touch 25 = .ok (.iload_n 2, 1) := by decide +kernel
theorem d_Desk_touch_26 : decode b_Desk_touch 26 = .ok (.invokevirtual 26, 3) := by decide +kernel
theorem d_Desk_touch_29 : decode b_Desk_touch 29 = .ok (.ifCond .ne 14, 3) := by decide +kernel
theorem d_Desk_touch_32 : decode b_Desk_touch 32 = .ok (.aload_n 0, 1) := by decide +kernel
theorem d_Desk_touch_33 : decode b_Desk_touch 33 = .ok (.iload 4, 2) := by decide +kernel
theorem d_Desk_touch_35 : decode b_Desk_touch 35 = .ok (.iload_n 1, 1) := by decide +kernel
theorem d_Desk_touch_36 : decode b_Desk_touch 36 = .ok (.iload_n 2, 1) := by decide +kernel
theorem d_Desk_touch_37 : decode b_Desk_touch 37 = .ok (.invokevirtual 26, 3) := by decide +kernel
theorem d_Desk_touch_40 : decode b_Desk_touch 40 = .ok (.ifCond .eq 5, 3) := by decide +kernel
theorem d_Desk_touch_43 : decode b_Desk_touch 43 = .ok (.iconst 1, 1) := by decide +kernel
theorem d_Desk_touch_44 : decode b_Desk_touch 44 = .ok (.ireturn, 1) := by decide +kernel
theorem d_Desk_touch_45 : decode b_Desk_touch 45 = .ok (.aload_n 0, 1) := by decide +kernel
theorem d_Desk_touch_46 : decode b_Desk_touch 46 = .ok (.iload_n 1, 1) := by decide +kernel
theorem d_Desk_touch_47 : decode b_Desk_touch 47 = .ok (.iload_n 2, 1) := by decide +kernel
theorem d_Desk_touch_48 : decode b_Desk_touch 48 = .ok (.iload_n 3, 1) := by decide +kernel
theorem d_Desk_touch_49 : decode b_Desk_touch 49 = .ok (.invokevirtual 18, 3) := by decide +kernel
theorem d_Desk_touch_52 : decode b_Desk_touch 52 = .ok (.aload_n 0, 1) := by decide +kernel
theorem d_Desk_touch_53 : decode b_Desk_touch 53 = .ok (.iload_n 1, 1) := by decide +kernel
theorem d_Desk_touch_54 : decode b_Desk_touch 54 = .ok (.iload_n 2, 1) := by decide +kernel
theorem d_Desk_touch_55 : decode b_Desk_touch 55 = .ok (.iload 4, 2) := by decide +kernel
theorem d_Desk_touch_57 : decode b_Desk_touch 57 = .ok (.invokevirtual 18, 3) := by decide +kernel
theorem d_Desk_touch_60 : decode b_Desk_touch 60 = .ok (.imul, 1) := by decide +kernel
theorem d_Desk_touch_61 : decode b_Desk_touch 61 = .ok (.ifCond .ge 27, 3) := by decide +kernel
theorem d_Desk_touch_64 : decode b_Desk_touch 64 = .ok (.aload_n 0, 1) := by decide +kernel
theorem d_Desk_touch_65 : decode b_Desk_touch 65 = .ok (.iload_n 3, 1) := by decide +kernel
theorem d_Desk_touch_66 : decode b_Desk_touch 66 = .ok (.iload 4, 2) := by decide +kernel
theorem d_Desk_touch_68 : decode b_Desk_touch 68 = .ok (.iload_n 1, 1) := by decide +kernel
theorem d_Desk_touch_69 : decode b_Desk_touch 69 = .ok (.invokevirtual 18, 3) := by decide +kernel
theorem d_Desk_touch_72 : decode b_Desk_touch 72 = .ok (.aload_n 0, 1) := by decide +kernel
theorem d_Desk_touch_73 : decode b_Desk_touch 73 = .ok (.iload_n 3, 1) := by decide +kernel
theorem d_Desk_touch_74 : decode b_Desk_touch 74 = .ok (.iload 4, 2) := by decide +kernel
theorem d_Desk_touch_76 : decode b_Desk_touch 76 = .ok (.iload_n 2, 1) := by decide +kernel
theorem d_Desk_touch_77 : decode b_Desk_touch 77 = .ok (.invokevirtual 18, 3) := by decide +kernel
theorem d_Desk_touch_80 : decode b_Desk_touch 80 = .ok (.imul, 1) := by decide +kernel
theorem d_Desk_touch_81 : decode b_Desk_touch 81 = .ok (.ifCond .ge 7, 3) := by decide +kernel
theorem d_Desk_touch_84 : decode b_Desk_touch 84 = .ok (.iconst 1, 1) := by decide +kernel
theorem d_Desk_touch_85 : decode b_Desk_touch 85 = .ok (.goto 4, 3) := by decide +kernel
theorem d_Desk_touch_88 : decode b_Desk_touch 88 = .ok (.iconst 0, 1) := by decide +kernel
