theorem d_PT_compareWithEarlier_0 : decode b_PT_compareWithEarlier 0 = .ok (.iload_n 2, 1) := by decide +kernel
theorem d_PT_compareWithEarlier_1 : decode b_PT_compareWithEarlier 1 = .ok (.bipush 11, 2) := by decide +kernel
theorem d_PT_compareWithEarlier_3 : decode b_PT_compareWithEarlier 3 = .ok (.imul, 1) := by decide +kernel
theorem d_PT_compareWithEarlier_4 : decode b_PT_compareWithEarlier 4 = .ok (.istore 4, 2) := by decide +kernel
theorem d_PT_compareWithEarlier_6 : decode b_PT_compareWithEarlier 6 = .ok (.aload_n 0, 1) := by decide +kernel
theorem d_PT_compareWithEarlier_7 : decode b_PT_compareWithEarlier 7 = .ok (.iload_n 1, 1) := by decide +kernel
theorem d_PT_compareWithEarlier_8 : decode b_PT_compareWithEarlier 8 = .ok (.iload_n 2, 1) := by decide +kernel
theorem d_PT_compareWithEarlier_9 : decode b_PT_compareWithEarlier 9 = .ok (.invokevirtual 71, 3) := by decide +kernel
theorem d_PT_compareWithEarlier_12 : decode b_PT_compareWithEarlier 12 = .ok (.istore 5, 2) := by decide +kernel
theorem d_PT_compareWithEarlier_14 : decode b_PT_compareWithEarlier 14 = .ok (.iconst 0, 1) := by decide +kernel
theorem d_PT_compareWithEarlier_15 : decode b_PT_compareWithEarlier 15 = .ok (.istore 6, 2) := by decide +kernel
theorem d_PT_compareWithEarlier_17 : decode b_PT_compareWithEarlier 17 = .ok (.iload 6, 2) := by decide +kernel
theorem d_PT_compareWithEarlier_19 : decode b_PT_compareWithEarlier 19 = .ok (.iload_n 3, 1) := by decide +kernel
theorem d_PT_compareWithEarlier_20 : decode b_PT_compareWithEarlier 20 = .ok (.if_icmp .ge 60, 3) := by decide +kernel
theorem d_PT_compareWithEarlier_23 : decode b_PT_compareWithEarlier 23 = .ok (.aload_n 0, 1) := by decide +kernel
theorem d_PT_compareWithEarlier_24 : decode b_PT_compareWithEarlier 24 = .ok (.aload_n 0, 1) := by decide +kernel
theorem d_PT_compareWithEarlier_25 : decode b_PT_compareWithEarlier 25 = .ok (.getfield 21, 3) := by decide +kernel
theorem d_PT_compareWithEarlier_28 : decode b_PT_compareWithEarlier 28 = .ok (.iload 4, 2) := by decide +kernel
theorem d_PT_compareWithEarlier_30 : decode b_PT_compareWithEarlier 30 = .ok (.iload 6, 2) := by decide +kernel
theorem d_PT_compareWithEarlier_32 : decode b_PT_compareWithEarlier 32 = .ok (.iadd, 1) := by decide +kernel
theorem d_PT_compareWithEarlier_33 : decode b_PT_compareWithEarlier 33 = .ok (.iaload, 1) := by decide +kernel
theorem d_PT_compareWithEarlier_34 : decode b_PT_compareWithEarlier 34 = .ok (.iload_n 1, 1) := by decide +kernel
theorem d_PT_compareWithEarlier_35 : decode b_PT_compareWithEarlier 35 = .ok (.invokevirtual 75, 3) := by decide +kernel
theorem d_PT_compareWithEarlier_38 : decode b_PT_compareWithEarlier 38 = .ok (.istore 7, 2) := by decide +kernel
theorem d_PT_compareWithEarlier_40 : decode b_PT_compareWithEarlier 40 = .ok (.aload_n 0, 1) := by decide +kernel
theorem d_PT_compareWithEarlier_41 : decode b_PT_compareWithEarlier 41 = .ok (.iload 5, 2) := by decide +kernel
theorem d_PT_compareWithEarlier_43 : decode b_PT_compareWithEarlier 43 = .ok (.aload_n 0, 1) := by decide +kernel
theorem d_PT_compareWithEarlier_44 : decode b_PT_compareWithEarlier 44 = .ok (.getfield 18, 3) := by decide +kernel
theorem d_PT_compareWithEarlier_47 : decode b_PT_compareWithEarlier 47 = .ok (.iload 4, 2) := by decide +kernel
theorem d_PT_compareWithEarlier_49 : decode b_PT_compareWithEarlier 49 = .ok (.iload 6, 2) := by decide +kernel
theorem d_PT_compareWithEarlier_51 : decode b_PT_compareWithEarlier 51 = .ok (.iadd, 1) := by decide +kernel
theorem d_PT_compareWithEarlier_52 : decode b_PT_compareWithEarlier 52 = .ok (.iaload, 1) := by decide +kernel
theorem d_PT_compareWithEarlier_53 : decode b_PT_compareWithEarlier 53 = .ok (.invokevirtual 75, 3) := by decide +kernel
theorem d_PT_compareWithEarlier_56 : decode b_PT_compareWithEarlier 56 = .ok (.istore 8, 2) := by decide +kernel
theorem d_PT_compareWithEarlier_58 : decode b_PT_compareWithEarlier 58 = .ok (.iload 7, 2) := by decide +kernel
theorem d_PT_compareWithEarlier_60 : decode b_PT_compareWithEarlier 60 = .ok (.iload 8, 2) := by decide +kernel
theorem d_PT_compareWithEarlier_62 : decode b_PT_compareWithEarlier 62 = .ok (.ior, 1) := by decide +kernel
theorem d_PT_compareWithEarlier_63 : decode b_PT_compareWithEarlier 63 = .ok (.ifCond .eq 11, 3) := by decide +kernel
theorem d_PT_compareWithEarlier_66 : decode b_PT_compareWithEarlier 66 = .ok (.aload_n 0, 1) := by decide +kernel
theorem d_PT_compareWithEarlier_67 : decode b_PT_compareWithEarlier 67 = .ok (.iload 7, 2) := by decide +kernel
theorem d_PT_compareWithEarlier_69 : decode b_PT_compareWithEarlier 69 = .ok (.iload 8, 2) := by decide +kernel
theorem d_PT_compareWithEarlier_71 : decode b_PT_compareWithEarlier 71 = .ok (.invokevirtual 78, 3) := by decide +kernel
theorem d_PT_compareWithEarlier_74 : decode b_PT_compareWithEarlier 74 = .ok (.iinc 6 1, 3) := by decide +kernel
theorem d_PT_compareWithEarlier_77 : decode b_PT_compareWithEarlier 77 = .ok (.goto (-60), 3) := by decide +kernel
theorem d_PT_compareWithEarlier_80 : decode b_PT_compareWithEarlier 80 = .ok (.aload_n 0, 1) := by decide +kernel
theorem d_PT_compareWithEarlier_81 : decode b_PT_compareWithEarlier 81 = .ok (.getfield 18, 3) := by decide +kernel
theorem d_PT_compareWithEarlier_84 : decode b_PT_compareWithEarlier 84 = .ok (.iload 4, 2) := by decide +kernel
theorem d_PT_compareWithEarlier_86 : decode b_PT_compareWithEarlier 86 = .ok (.iload_n 3, 1) := by decide +kernel
theorem d_PT_compareWithEarlier_87 : decode b_PT_compareWithEarlier 87 = .ok (.iadd, 1) := by decide +kernel
theorem d_PT_compareWithEarlier_88 : decode b_PT_compareWithEarlier 88 = .ok (.iload_n 1, 1) := by decide +kernel
theorem d_PT_compareWithEarlier_89 : decode b_PT_compareWithEarlier 89 = .ok (.iastore, 1) := by decide +kernel
theorem d_PT_compareWithEarlier_90 : decode b_PT_compareWithEarlier 90 = .ok (.aload_n 0, 1) := by decide +kernel
theorem d_PT_compareWithEarlier_91 : decode b_PT_compareWithEarlier 91 = .ok (.getfield 21, 3) := by decide +kernel
theorem d_PT_compareWithEarlier_94 : decode b_PT_compareWithEarlier 94 = .ok (.iload 4, 2) := by decide +kernel
theorem d_PT_compareWithEarlier_96 : decode b_PT_compareWithEarlier 96 = .ok (.iload_n 3, 1) := by decide +kernel
theorem d_PT_compareWithEarlier_97 : decode b_PT_compareWithEarlier 97 = .ok (.iadd, 1) := by decide +kernel
theorem d_PT_compareWithEarlier_98 : decode b_PT_compareWithEarlier 98 = .ok (.iload 5, 2) := by decide +kernel
theorem d_PT_compareWithEarlier_100 : decode b_PT_compareWithEarlier 100 = .ok (.iastore, 1) := by decide +kernel
theorem d_PT_compareWithEarlier_101 : decode b_PT_compareWithEarlier 101 = .ok (.return_, 1) := by decide +kernel
theorem d_PT_endingBelow_0 : decode b_PT_endingBelow 0 = .ok (.iload_n 2, 1) := by decide +kernel
theorem d_PT_endingBelow_1 : decode b_PT_endingBelow 1 = .ok (.istore_n 3, 1) := by decide +kernel
theorem d_PT_endingBelow_2 : decode b_PT_endingBelow 2 = .ok (.iconst 0, 1) := by decide +kernel
theorem d_PT_endingBelow_3 : decode b_PT_endingBelow 3 = .ok (.istore 4, 2) := by decide +kernel
theorem d_PT_endingBelow_5 : decode b_PT_endingBelow 5 = .ok (.iload 4, 2) := by decide +kernel
theorem d_PT_endingBelow_7 : decode b_PT_endingBelow 7 = .ok (.iload_n 1, 1) := by decide +kernel
theorem d_PT_endingBelow_8 : decode b_PT_endingBelow 8 = .ok (.if_icmp .gt 21, 3) := by decide +kernel
theorem d_PT_endingBelow_11 : decode b_PT_endingBelow 11 = .ok (.iload_n 3, 1) := by decide +kernel
theorem d_PT_endingBelow_12 : decode b_PT_endingBelow 12 = .ok (.aload_n 0, 1) := by decide +kernel
theorem d_PT_endingBelow_13 : decode b_PT_endingBelow 13 = .ok (.getfield 15, 3) := by decide +kernel
theorem d_PT_endingBelow_16 : decode b_PT_endingBelow 16 = .ok (.iload 4, 2) := by decide +kernel
theorem d_PT_endingBelow_18 : decode b_PT_endingBelow 18 = .ok (.iaload, 1) := by decide +kernel
theorem d_PT_endingBelow_19 : decode b_PT_endingBelow 19 = .ok (.iconst (-1), 1) := by decide +kernel
theorem d_PT_endingBelow_20 : decode b_PT_endingBelow 20 = .ok (.ixor, 1) := by decide +kernel
theorem d_PT_endingBelow_21 : decode b_PT_endingBelow 21 = .ok (.iand, 1) := by decide +kernel
theorem d_PT_endingBelow_22 : decode b_PT_endingBelow 22 = .ok (.istore_n 3, 1) := by decide +kernel
theorem d_PT_endingBelow_23 : decode b_PT_endingBelow 23 = .ok (.iinc 4 1, 3) := by decide +kernel
theorem d_PT_endingBelow_26 : decode b_PT_endingBelow 26 = .ok (.goto (-21), 3) := by decide +kernel
theorem d_PT_endingBelow_29 : decode b_PT_endingBelow 29 = .ok (.iload_n 3, 1) := by decide +kernel
theorem d_PT_endingBelow_30 : decode b_PT_endingBelow 30 = .ok (.ireturn, 1) := by decide +kernel
theorem d_PT_forgetTheLastWalk_0 : decode b_PT_forgetTheLastWalk 0 = .ok (.aload_n 0, 1) := by decide +kernel
theorem d_PT_forgetTheLastWalk_1 : decode b_PT_forgetTheLastWalk 1 = .ok (.iconst 0, 1) := by decide +kernel
theorem d_PT_forgetTheLastWalk_2 : decode b_PT_forgetTheLastWalk 2 = .ok (.putfield 47, 3) := by decide +kernel
theorem d_PT_forgetTheLastWalk_5 : decode b_PT_forgetTheLastWalk 5 = .ok (.aload_n 0, 1) := by decide +kernel
theorem d_PT_forgetTheLastWalk_6 : decode b_PT_forgetTheLastWalk 6 = .ok (.iconst 0, 1) := by decide +kernel
theorem d_PT_forgetTheLastWalk_7 : decode b_PT_forgetTheLastWalk 7 = .ok (.putfield 39, 3) := by decide +kernel
theorem d_PT_forgetTheLastWalk_10 : decode b_PT_forgetTheLastWalk 10 = .ok (.aload_n 0, 1) := by decide +kernel
theorem d_PT_forgetTheLastWalk_11 : decode b_PT_forgetTheLastWalk 11 = .ok (.getfield 9, 3) := by decide +kernel
theorem d_PT_forgetTheLastWalk_14 : decode b_PT_forgetTheLastWalk 14 = .ok (.iconst (-1), 1) := by decide +kernel
theorem d_PT_forgetTheLastWalk_15 : decode b_PT_forgetTheLastWalk 15 = .ok (.invokestatic 51, 3) := by decide +kernel
theorem d_PT_forgetTheLastWalk_18 : decode b_PT_forgetTheLastWalk 18 = .ok (.aload_n 0, 1) := by decide +kernel
theorem d_PT_forgetTheLastWalk_19 : decode b_PT_forgetTheLastWalk 19 = .ok (.getfield 15, 3) := by decide +kernel
theorem d_PT_forgetTheLastWalk_22 : decode b_PT_forgetTheLastWalk 22 = .ok (.iconst 0, 1) := by decide +kernel
theorem d_PT_forgetTheLastWalk_23 : decode b_PT_forgetTheLastWalk 23 = .ok (.invokestatic 51, 3) := by decide +kernel
theorem d_PT_forgetTheLastWalk_26 : decode b_PT_forgetTheLastWalk 26 = .ok (.return_, 1) := by decide +kernel
theorem d_PT_highestEnd_0 : decode b_PT_highestEnd 0 = .ok (.iconst 0, 1) := by decide +kernel
theorem d_PT_highestEnd_1 : decode b_PT_highestEnd 1 = .ok (.istore_n 3, 1) := by decide +kernel
theorem d_PT_highestEnd_2 : decode b_PT_highestEnd 2 = .ok (.iload_n 3, 1) := by decide +kernel
theorem d_PT_highestEnd_3 : decode b_PT_highestEnd 3 = .ok (.iload_n 2, 1) := by decide +kernel
theorem d_PT_highestEnd_4 : decode b_PT_highestEnd 4 = .ok (.if_icmp .ge 22, 3) := by decide +kernel
theorem d_PT_highestEnd_7 : decode b_PT_highestEnd 7 = .ok (.iload_n 1, 1) := by decide +kernel
theorem d_PT_highestEnd_8 : decode b_PT_highestEnd 8 = .ok (.aload_n 0, 1) := by decide +kernel
theorem d_PT_highestEnd_9 : decode b_PT_highestEnd 9 = .ok (.getfield 15, 3) := by decide +kernel
theorem d_PT_highestEnd_12 : decode b_PT_highestEnd 12 = .ok (.iload_n 3, 1) := by decide +kernel
theorem d_PT_highestEnd_13 : decode b_PT_highestEnd 13 = .ok (.iaload, 1) := by decide +kernel
theorem d_PT_highestEnd_14 : decode b_PT_highestEnd 14 = .ok (.iand, 1) := by decide +kernel
theorem d_PT_highestEnd_15 : decode b_PT_highestEnd 15 = .ok (.ifCond .eq 5, 3) := by decide +kernel
theorem d_PT_highestEnd_18 : decode b_PT_highestEnd 18 = .ok (.iload_n 3, 1) := by decide +kernel
theorem d_PT_highestEnd_19 : decode b_PT_highestEnd 19 = .ok (.ireturn, 1) := by decide +kernel
theorem d_PT_highestEnd_20 : decode b_PT_highestEnd 20 = .ok (.iinc 3 1, 3) := by decide +kernel
theorem d_PT_highestEnd_23 : decode b_PT_highestEnd 23 = .ok (.goto (-21), 3) := by decide +kernel
theorem d_PT_highestEnd_26 : decode b_PT_highestEnd 26 = .ok (.iload_n 2, 1) := by decide +kernel
theorem d_PT_highestEnd_27 : decode b_PT_highestEnd 27 = .ok (.ireturn, 1) := by decide +kernel
theorem d_PT_newBackLine_0 : decode b_PT_newBackLine 0 = .ok (.aload_n 0, 1) := by decide +kernel
theorem d_PT_newBackLine_1 : decode b_PT_newBackLine 1 = .ok (.getfield 47, 3) := by decide +kernel
theorem d_PT_newBackLine_4 : decode b_PT_newBackLine 4 = .ok (.bipush 27, 2) := by decide +kernel
theorem d_PT_newBackLine_6 : decode b_PT_newBackLine 6 = .ok (.if_icmp .lt 10, 3) := by decide +kernel
theorem d_PT_newBackLine_9 : decode b_PT_newBackLine 9 = .ok (.aload_n 0, 1) := by decide +kernel
theorem d_PT_newBackLine_10 : decode b_PT_newBackLine 10 = .ok (.iconst 1, 1) := by decide +kernel
theorem d_PT_newBackLine_11 : decode b_PT_newBackLine 11 = .ok (.putfield 39, 3) := by decide +kernel
theorem d_PT_newBackLine_14 : decode b_PT_newBackLine 14 = .ok (.iconst 0, 1) := by decide +kernel
theorem d_PT_newBackLine_15 : decode b_PT_newBackLine 15 = .ok (.ireturn, 1) := by decide +kernel
theorem d_PT_newBackLine_16 : decode b_PT_newBackLine 16 = .ok (.iconst 1, 1) := by decide +kernel
theorem d_PT_newBackLine_17 : decode b_PT_newBackLine 17 = .ok (.aload_n 0, 1) := by decide +kernel
theorem d_PT_newBackLine_18 : decode b_PT_newBackLine 18 = .ok (.getfield 47, 3) := by decide +kernel
theorem d_PT_newBackLine_21 : decode b_PT_newBackLine 21 = .ok (.ishl, 1) := by decide +kernel
theorem d_PT_newBackLine_22 : decode b_PT_newBackLine 22 = .ok (.istore_n 2, 1) := by decide +kernel
theorem d_PT_newBackLine_23 : decode b_PT_newBackLine 23 = .ok (.aload_n 0, 1) := by decide +kernel
theorem d_PT_newBackLine_24 : decode b_PT_newBackLine 24 = .ok (.getfield 24, 3) := by decide +kernel
theorem d_PT_newBackLine_27 : decode b_PT_newBackLine 27 = .ok (.aload_n 0, 1) := by decide +kernel
theorem d_PT_newBackLine_28 : decode b_PT_newBackLine 28 = .ok (.getfield 47, 3) := by decide +kernel
theorem d_PT_newBackLine_31 : decode b_PT_newBackLine 31 = .ok (.iload_n 2, 1) := by decide +kernel
theorem d_PT_newBackLine_32 : decode b_PT_newBackLine 32 = .ok (.iastore, 1) := by decide +kernel
theorem d_PT_newBackLine_33 : decode b_PT_newBackLine 33 = .ok (.aload_n 0, 1) := by decide +kernel
theorem d_PT_newBackLine_34 : decode b_PT_newBackLine 34 = .ok (.getfield 27, 3) := by decide +kernel
theorem d_PT_newBackLine_37 : decode b_PT_newBackLine 37 = .ok (.aload_n 0, 1) := by decide +kernel
theorem d_PT_newBackLine_38 : decode b_PT_newBackLine 38 = .ok (.getfield 47, 3) := by decide +kernel
theorem d_PT_newBackLine_41 : decode b_PT_newBackLine 41 = .ok (.iconst 0, 1) := by decide +kernel
theorem d_PT_newBackLine_42 : decode b_PT_newBackLine 42 = .ok (.iastore, 1) := by decide +kernel
theorem d_PT_newBackLine_43 : decode b_PT_newBackLine 43 = .ok (.aload_n 0, 1) := by decide +kernel
theorem d_PT_newBackLine_44 : decode b_PT_newBackLine 44 = .ok (.getfield 15, 3) := by decide +kernel
theorem d_PT_newBackLine_47 : decode b_PT_newBackLine 47 = .ok (.iload_n 1, 1) := by decide +kernel
theorem d_PT_newBackLine_48 : decode b_PT_newBackLine 48 = .ok (.dup2, 1) := by decide +kernel
theorem d_PT_newBackLine_49 : decode b_PT_newBackLine 49 = .ok (.iaload, 1) := by decide +kernel
theorem d_PT_newBackLine_50 : decode b_PT_newBackLine 50 = .ok (.iload_n 2, 1) := by decide +kernel
theorem d_PT_newBackLine_51 : decode b_PT_newBackLine 51 = .ok (.ior, 1) := by decide +kernel
theorem d_PT_newBackLine_52 : decode b_PT_newBackLine 52 = .ok (.iastore, 1) := by decide +kernel
theorem d_PT_newBackLine_53 : decode b_PT_newBackLine 53 = .ok (.aload_n 0, 1) := by decide +kernel
theorem d_PT_newBackLine_54 : decode b_PT_newBackLine 54 = .ok (.dup, 1) := by decide +kernel
theorem d_PT_newBackLine_55 : decode b_PT_newBackLine 55 = .ok (.getfield 47, 3) := by decide +kernel
theorem d_PT_newBackLine_58 : decode b_PT_newBackLine 58 = .ok (.iconst 1, 1) := by decide +kernel
theorem d_PT_newBackLine_59 : decode b_PT_newBackLine 59 = .ok (.iadd, 1) := by decide +kernel
theorem d_PT_newBackLine_60 : decode b_PT_newBackLine 60 = .ok (.putfield 47, 3) := by decide +kernel
theorem d_PT_newBackLine_63 : decode b_PT_newBackLine 63 = .ok (.iload_n 2, 1) := by decide +kernel
theorem d_PT_newBackLine_64 : decode b_PT_newBackLine 64 = .ok (.ireturn, 1) := by decide +kernel
theorem d_PT_partSides_0 : decode b_PT_partSides 0 = .ok (.iconst 0, 1) := by decide +kernel
theorem d_PT_partSides_1 : decode b_PT_partSides 1 = .ok (.istore_n 3, 1) := by decide +kernel
theorem d_PT_partSides_2 : decode b_PT_partSides 2 = .ok (.iconst 0, 1) := by decide +kernel
theorem d_PT_partSides_3 : decode b_PT_partSides 3 = .ok (.istore 4, 2) := by decide +kernel
theorem d_PT_partSides_5 : decode b_PT_partSides 5 = .ok (.iconst 0, 1) := by decide +kernel
theorem d_PT_partSides_6 : decode b_PT_partSides 6 = .ok (.istore 5, 2) := by decide +kernel
theorem d_PT_partSides_8 : decode b_PT_partSides 8 = .ok (.iload 5, 2) := by decide +kernel
theorem d_PT_partSides_10 : decode b_PT_partSides 10 = .ok (.aload_n 0, 1) := by decide +kernel
theorem d_PT_partSides_11 : decode b_PT_partSides 11 = .ok (.getfield 47, 3) := by decide +kernel
theorem d_PT_partSides_14 : decode b_PT_partSides 14 = .ok (.if_icmp .ge 73, 3) := by decide +kernel
theorem d_PT_partSides_17 : decode b_PT_partSides 17 = .ok (.iconst 1, 1) := by decide +kernel
theorem d_PT_partSides_18 : decode b_PT_partSides 18 = .ok (.iload 5, 2) := by decide +kernel
theorem d_PT_partSides_20 : decode b_PT_partSides 20 = .ok (.ishl, 1) := by decide +kernel
theorem d_PT_partSides_21 : decode b_PT_partSides 21 = .ok (.istore 6, 2) := by decide +kernel
theorem d_PT_partSides_23 : decode b_PT_partSides 23 = .ok (.iload_n 1, 1) := by decide +kernel
theorem d_PT_partSides_24 : decode b_PT_partSides 24 = .ok (.iload 6, 2) := by decide +kernel
theorem d_PT_partSides_26 : decode b_PT_partSides 26 = .ok (.iand, 1) := by decide +kernel
theorem d_PT_partSides_27 : decode b_PT_partSides 27 = .ok (.ifCond .eq 25, 3) := by decide +kernel
theorem d_PT_partSides_30 : decode b_PT_partSides 30 = .ok (.iload_n 3, 1) := by decide +kernel
theorem d_PT_partSides_31 : decode b_PT_partSides 31 = .ok (.aload_n 0, 1) := by decide +kernel
theorem d_PT_partSides_32 : decode b_PT_partSides 32 = .ok (.getfield 24, 3) := by decide +kernel
theorem d_PT_partSides_35 : decode b_PT_partSides 35 = .ok (.iload 5, 2) := by decide +kernel
theorem d_PT_partSides_37 : decode b_PT_partSides 37 = .ok (.iaload, 1) := by decide +kernel
theorem d_PT_partSides_38 : decode b_PT_partSides 38 = .ok (.ior, 1) := by decide +kernel
theorem d_PT_partSides_39 : decode b_PT_partSides 39 = .ok (.istore_n 3, 1) := by decide +kernel
theorem d_PT_partSides_40 : decode b_PT_partSides 40 = .ok (.iload 4, 2) := by decide +kernel
theorem d_PT_partSides_42 : decode b_PT_partSides 42 = .ok (.aload_n 0, 1) := by decide +kernel
theorem d_PT_partSides_43 : decode b_PT_partSides 43 = .ok (.getfield 27, 3) := by decide +kernel
theorem d_PT_partSides_46 : decode b_PT_partSides 46 = .ok (.iload 5, 2) := by decide +kernel
theorem d_PT_partSides_48 : decode b_PT_partSides 48 = .ok (.iaload, 1) := by decide +kernel
theorem d_PT_partSides_49 : decode b_PT_partSides 49 = .ok (.ior, 1) := by decide +kernel
theorem d_PT_partSides_50 : decode b_PT_partSides 50 = .ok (.istore 4, 2) := by decide +kernel
theorem d_PT_partSides_52 : decode b_PT_partSides 52 = .ok (.iload_n 2, 1) := by decide +kernel
theorem d_PT_partSides_53 : decode b_PT_partSides 53 = .ok (.iload 6, 2) := by decide +kernel
theorem d_PT_partSides_55 : decode b_PT_partSides 55 = .ok (.iand, 1) := by decide +kernel
theorem d_PT_partSides_56 : decode b_PT_partSides 56 = .ok (.ifCond .eq 25, 3) := by decide +kernel
theorem d_PT_partSides_59 : decode b_PT_partSides 59 = .ok (.iload_n 3, 1) := by decide +kernel
theorem d_PT_partSides_60 : decode b_PT_partSides 60 = .ok (.aload_n 0, 1) := by decide +kernel
theorem d_PT_partSides_61 : decode b_PT_partSides 61 = .ok (.getfield 27, 3) := by decide +kernel
theorem d_PT_partSides_64 : decode b_PT_partSides 64 = .ok (.iload 5, 2) := by decide +kernel
theorem d_PT_partSides_66 : decode b_PT_partSides 66 = .ok (.iaload, 1) := by decide +kernel
theorem d_PT_partSides_67 : decode b_PT_partSides 67 = .ok (.ior, 1) := by decide +kernel
theorem d_PT_partSides_68 : decode b_PT_partSides 68 = .ok (.istore_n 3, 1) := by decide +kernel
theorem d_PT_partSides_69 : decode b_PT_partSides 69 = .ok (.iload 4, 2) := by decide +kernel
theorem d_PT_partSides_71 : decode b_PT_partSides 71 = .ok (.aload_n 0, 1) := by decide +kernel
theorem d_PT_partSides_72 : decode b_PT_partSides 72 = .ok (.getfield 24, 3) := by decide +kernel
theorem d_PT_partSides_75 : decode b_PT_partSides 75 = .ok (.iload 5, 2) := by decide +kernel
theorem d_PT_partSides_77 : decode b_PT_partSides 77 = .ok (.iaload, 1) := by decide +kernel
theorem d_PT_partSides_78 : decode b_PT_partSides 78 = .ok (.ior, 1) := by decide +kernel
theorem d_PT_partSides_79 : decode b_PT_partSides 79 = .ok (.istore 4, 2) := by decide +kernel
theorem d_PT_partSides_81 : decode b_PT_partSides 81 = .ok (.iinc 5 1, 3) := by decide +kernel
theorem d_PT_partSides_84 : decode b_PT_partSides 84 = .ok (.goto (-76), 3) := by decide +kernel
theorem d_PT_partSides_87 : decode b_PT_partSides 87 = .ok (.iload_n 3, 1) := by decide +kernel
theorem d_PT_partSides_88 : decode b_PT_partSides 88 = .ok (.iload 4, 2) := by decide +kernel
theorem d_PT_partSides_90 : decode b_PT_partSides 90 = .ok (.iand, 1) := by decide +kernel
theorem d_PT_partSides_91 : decode b_PT_partSides 91 = .ok (.ifCond .eq 8, 3) := by decide +kernel
theorem d_PT_partSides_94 : decode b_PT_partSides 94 = .ok (.aload_n 0, 1) := by decide +kernel
theorem d_PT_partSides_95 : decode b_PT_partSides 95 = .ok (.iconst 1, 1) := by decide +kernel
theorem d_PT_partSides_96 : decode b_PT_partSides 96 = .ok (.putfield 39, 3) := by decide +kernel
theorem d_PT_partSides_99 : decode b_PT_partSides 99 = .ok (.iconst 0, 1) := by decide +kernel
theorem d_PT_partSides_100 : decode b_PT_partSides 100 = .ok (.istore 5, 2) := by decide +kernel
theorem d_PT_partSides_102 : decode b_PT_partSides 102 = .ok (.iload 5, 2) := by decide +kernel
theorem d_PT_partSides_104 : decode b_PT_partSides 104 = .ok (.aload_n 0, 1) := by decide +kernel
theorem d_PT_partSides_105 : decode b_PT_partSides 105 = .ok (.getfield 47, 3) := by decide +kernel
theorem d_PT_partSides_108 : decode b_PT_partSides 108 = .ok (.if_icmp .ge 67, 3) := by decide +kernel
theorem d_PT_partSides_111 : decode b_PT_partSides 111 = .ok (.iconst 1, 1) := by decide +kernel
theorem d_PT_partSides_112 : decode b_PT_partSides 112 = .ok (.iload 5, 2) := by decide +kernel
theorem d_PT_partSides_114 : decode b_PT_partSides 114 = .ok (.ishl, 1) := by decide +kernel
theorem d_PT_partSides_115 : decode b_PT_partSides 115 = .ok (.istore 6, 2) := by decide +kernel
theorem d_PT_partSides_117 : decode b_PT_partSides 117 = .ok (.iload_n 3, 1) := by decide +kernel
theorem d_PT_partSides_118 : decode b_PT_partSides 118 = .ok (.iload 6, 2) := by decide +kernel
theorem d_PT_partSides_120 : decode b_PT_partSides 120 = .ok (.iand, 1) := by decide +kernel
theorem d_PT_partSides_121 : decode b_PT_partSides 121 = .ok (.ifCond .eq 23, 3) := by decide +kernel
theorem d_PT_partSides_124 : decode b_PT_partSides 124 = .ok (.aload_n 0, 1) := by decide +kernel
theorem d_PT_partSides_125 : decode b_PT_partSides 125 = .ok (.getfield 24, 3) := by decide +kernel
theorem d_PT_partSides_128 : decode b_PT_partSides 128 = .ok (.iload 5, 2) := by decide +kernel
theorem d_PT_partSides_130 : decode b_PT_partSides 130 = .ok (.iload_n 3, 1) := by decide +kernel
theorem d_PT_partSides_131 : decode b_PT_partSides 131 = .ok (.iastore, 1) := by decide +kernel
theorem d_PT_partSides_132 : decode b_PT_partSides 132 = .ok (.aload_n 0, 1) := by decide +kernel
theorem d_PT_partSides_133 : decode b_PT_partSides 133 = .ok (.getfield 27, 3) := by decide +kernel
theorem d_PT_partSides_136 : decode b_PT_partSides 136 = .ok (.iload 5, 2) := by decide +kernel
theorem d_PT_partSides_138 : decode b_PT_partSides 138 = .ok (.iload 4, 2) := by decide +kernel
theorem d_PT_partSides_140 : decode b_PT_partSides 140 = .ok (.iastore, 1) := by decide +kernel
theorem d_PT_partSides_141 : decode b_PT_partSides 141 = .ok (.goto 28, 3) := by decide +kernel
theorem d_PT_partSides_144 : decode b_PT_partSides 144 = .ok (.iload 4, 2) := by decide +kernel
theorem d_PT_partSides_146 : decode b_PT_partSides 146 = .ok (.iload 6, 2) := by decide +kernel
theorem d_PT_partSides_148 : decode b_PT_partSides 148 = .ok (.iand, 1) := by decide +kernel
theorem d_PT_partSides_149 : decode b_PT_partSides 149 = .ok (.ifCond .eq 20, 3) := by decide +kernel
theorem d_PT_partSides_152 : decode b_PT_partSides 152 = .ok (.aload_n 0, 1) := by decide +kernel
theorem d_PT_partSides_153 : decode b_PT_partSides 153 = .ok (.getfield 24, 3) := by decide +kernel
theorem d_PT_partSides_156 : decode b_PT_partSides 156 = .ok (.iload 5, 2) := by decide +kernel
theorem d_PT_partSides_158 : decode b_PT_partSides 158 = .ok (.iload 4, 2) := by decide +kernel
theorem d_PT_partSides_160 : decode b_PT_partSides 160 = .ok (.iastore, 1) := by decide +kernel
theorem d_PT_partSides_161 : decode b_PT_partSides 161 = .ok (.aload_n 0, 1) := by decide +kernel
theorem d_PT_partSides_162 : decode b_PT_partSides 162 = .ok (.getfield 27, 3) := by decide +kernel
theorem d_PT_partSides_165 : decode b_PT_partSides 165 = .ok (.iload 5, 2) := by decide +kernel
