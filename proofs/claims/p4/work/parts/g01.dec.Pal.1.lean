theorem d_Pal_hasLaterNeighbour_0 : decode b_Pal_hasLaterNeighbour 0 = .ok (.aload_n 0, 1) := by decide +kernel
theorem d_Pal_hasLaterNeighbour_1 : decode b_Pal_hasLaterNeighbour 1 = .ok (.iload_n 1, 1) := by decide +kernel
theorem d_Pal_hasLaterNeighbour_2 : decode b_Pal_hasLaterNeighbour 2 = .ok (.invokevirtual 43, 3) := by decide +kernel
theorem d_Pal_hasLaterNeighbour_5 : decode b_Pal_hasLaterNeighbour 5 = .ok (.iload_n 1, 1) := by decide +kernel
theorem d_Pal_hasLaterNeighbour_6 : decode b_Pal_hasLaterNeighbour 6 = .ok (.ishr, 1) := by decide +kernel
theorem d_Pal_hasLaterNeighbour_7 : decode b_Pal_hasLaterNeighbour 7 = .ok (.ifCond .eq 7, 3) := by decide +kernel
theorem d_Pal_hasLaterNeighbour_10 : decode b_Pal_hasLaterNeighbour 10 = .ok (.iconst 1, 1) := by decide +kernel
theorem d_Pal_hasLaterNeighbour_11 : decode b_Pal_hasLaterNeighbour 11 = .ok (.goto 4, 3) := by decide +kernel
theorem d_Pal_hasLaterNeighbour_14 : decode b_Pal_hasLaterNeighbour 14 = .ok (.iconst 0, 1) := by decide +kernel
theorem d_Pal_hasLaterNeighbour_15 : decode b_Pal_hasLaterNeighbour 15 = .ok (.ireturn, 1) := by decide +kernel
theorem d_Pal_isFree_0 : decode b_Pal_isFree 0 = .ok (.iconst 0, 1) := by decide +kernel
theorem d_Pal_isFree_1 : decode b_Pal_isFree 1 = .ok (.istore 4, 2) := by decide +kernel
theorem d_Pal_isFree_3 : decode b_Pal_isFree 3 = .ok (.iload 4, 2) := by decide +kernel
theorem d_Pal_isFree_5 : decode b_Pal_isFree 5 = .ok (.iload_n 3, 1) := by decide +kernel
theorem d_Pal_isFree_6 : decode b_Pal_isFree 6 = .ok (.if_icmp .ge 35, 3) := by decide +kernel
theorem d_Pal_isFree_9 : decode b_Pal_isFree 9 = .ok (.aload_n 1, 1) := by decide +kernel
theorem d_Pal_isFree_10 : decode b_Pal_isFree 10 = .ok (.iload_n 3, 1) := by decide +kernel
theorem d_Pal_isFree_11 : decode b_Pal_isFree 11 = .ok (.invokevirtual 43, 3) := by decide +kernel
theorem d_Pal_isFree_14 : decode b_Pal_isFree 14 = .ok (.iload 4, 2) := by decide +kernel
theorem d_Pal_isFree_16 : decode b_Pal_isFree 16 = .ok (.invokestatic 26, 3) := by decide +kernel
theorem d_Pal_isFree_19 : decode b_Pal_isFree 19 = .ok (.ifCond .eq 16, 3) := by decide +kernel
theorem d_Pal_isFree_22 : decode b_Pal_isFree 22 = .ok (.aload_n 0, 1) := by decide +kernel
theorem d_Pal_isFree_23 : decode b_Pal_isFree 23 = .ok (.getfield 9, 3) := by decide +kernel
theorem d_Pal_isFree_26 : decode b_Pal_isFree 26 = .ok (.iload 4, 2) := by decide +kernel
theorem d_Pal_isFree_28 : decode b_Pal_isFree 28 = .ok (.iaload, 1) := by decide +kernel
theorem d_Pal_isFree_29 : decode b_Pal_isFree 29 = .ok (.iload_n 2, 1) := by decide +kernel
theorem d_Pal_isFree_30 : decode b_Pal_isFree 30 = .ok (.if_icmp .ne 5, 3) := by decide +kernel
theorem d_Pal_isFree_33 : decode b_Pal_isFree 33 = .ok (.iconst 0, 1) := by decide +kernel
theorem d_Pal_isFree_34 : decode b_Pal_isFree 34 = .ok (.ireturn, 1) := by decide +kernel
theorem d_Pal_isFree_35 : decode b_Pal_isFree 35 = .ok (.iinc 4 1, 3) := by decide +kernel
theorem d_Pal_isFree_38 : decode b_Pal_isFree 38 = .ok (.goto (-35), 3) := by decide +kernel
theorem d_Pal_isFree_41 : decode b_Pal_isFree 41 = .ok (.iconst 1, 1) := by decide +kernel
theorem d_Pal_isFree_42 : decode b_Pal_isFree 42 = .ok (.ireturn, 1) := by decide +kernel
theorem d_Pal_paintFrom_0 : decode b_Pal_paintFrom 0 = .ok (.iload_n 2, 1) := by decide +kernel
theorem d_Pal_paintFrom_1 : decode b_Pal_paintFrom 1 = .ok (.bipush 10, 2) := by decide +kernel
theorem d_Pal_paintFrom_3 : decode b_Pal_paintFrom 3 = .ok (.if_icmp .lt 5, 3) := by decide +kernel
theorem d_Pal_paintFrom_6 : decode b_Pal_paintFrom 6 = .ok (.iconst 1, 1) := by decide +kernel
theorem d_Pal_paintFrom_7 : decode b_Pal_paintFrom 7 = .ok (.ireturn, 1) := by decide +kernel
theorem d_Pal_paintFrom_8 : decode b_Pal_paintFrom 8 = .ok (.aload_n 0, 1) := by decide +kernel
theorem d_Pal_paintFrom_9 : decode b_Pal_paintFrom 9 = .ok (.getfield 15, 3) := by decide +kernel
theorem d_Pal_paintFrom_12 : decode b_Pal_paintFrom 12 = .ok (.iload_n 2, 1) := by decide +kernel
theorem d_Pal_paintFrom_13 : decode b_Pal_paintFrom 13 = .ok (.invokestatic 26, 3) := by decide +kernel
theorem d_Pal_paintFrom_16 : decode b_Pal_paintFrom 16 = .ok (.ifCond .ne 13, 3) := by decide +kernel
theorem d_Pal_paintFrom_19 : decode b_Pal_paintFrom 19 = .ok (.aload_n 0, 1) := by decide +kernel
theorem d_Pal_paintFrom_20 : decode b_Pal_paintFrom 20 = .ok (.aload_n 1, 1) := by decide +kernel
theorem d_Pal_paintFrom_21 : decode b_Pal_paintFrom 21 = .ok (.iload_n 2, 1) := by decide +kernel
theorem d_Pal_paintFrom_22 : decode b_Pal_paintFrom 22 = .ok (.iconst 1, 1) := by decide +kernel
theorem d_Pal_paintFrom_23 : decode b_Pal_paintFrom 23 = .ok (.iadd, 1) := by decide +kernel
theorem d_Pal_paintFrom_24 : decode b_Pal_paintFrom 24 = .ok (.iload_n 3, 1) := by decide +kernel
theorem d_Pal_paintFrom_25 : decode b_Pal_paintFrom 25 = .ok (.invokevirtual 22, 3) := by decide +kernel
theorem d_Pal_paintFrom_28 : decode b_Pal_paintFrom 28 = .ok (.ireturn, 1) := by decide +kernel
theorem d_Pal_paintFrom_29 : decode b_Pal_paintFrom 29 = .ok (.iconst 0, 1) := by decide +kernel
theorem d_Pal_paintFrom_30 : decode b_Pal_paintFrom 30 = .ok (.istore 4, 2) := by decide +kernel
theorem d_Pal_paintFrom_32 : decode b_Pal_paintFrom 32 = .ok (.iload 4, 2) := by decide +kernel
theorem d_Pal_paintFrom_34 : decode b_Pal_paintFrom 34 = .ok (.iload_n 3, 1) := by decide +kernel
theorem d_Pal_paintFrom_35 : decode b_Pal_paintFrom 35 = .ok (.if_icmp .gt 68, 3) := by decide +kernel
theorem d_Pal_paintFrom_38 : decode b_Pal_paintFrom 38 = .ok (.iload 4, 2) := by decide +kernel
theorem d_Pal_paintFrom_40 : decode b_Pal_paintFrom 40 = .ok (.aload_n 0, 1) := by decide +kernel
theorem d_Pal_paintFrom_41 : decode b_Pal_paintFrom 41 = .ok (.getfield 19, 3) := by decide +kernel
theorem d_Pal_paintFrom_44 : decode b_Pal_paintFrom 44 = .ok (.if_icmp .ge 59, 3) := by decide +kernel
theorem d_Pal_paintFrom_47 : decode b_Pal_paintFrom 47 = .ok (.aload_n 0, 1) := by decide +kernel
theorem d_Pal_paintFrom_48 : decode b_Pal_paintFrom 48 = .ok (.aload_n 1, 1) := by decide +kernel
theorem d_Pal_paintFrom_49 : decode b_Pal_paintFrom 49 = .ok (.iload 4, 2) := by decide +kernel
theorem d_Pal_paintFrom_51 : decode b_Pal_paintFrom 51 = .ok (.iload_n 2, 1) := by decide +kernel
theorem d_Pal_paintFrom_52 : decode b_Pal_paintFrom 52 = .ok (.invokevirtual 30, 3) := by decide +kernel
theorem d_Pal_paintFrom_55 : decode b_Pal_paintFrom 55 = .ok (.ifCond .eq 42, 3) := by decide +kernel
theorem d_Pal_paintFrom_58 : decode b_Pal_paintFrom 58 = .ok (.aload_n 0, 1) := by decide +kernel
theorem d_Pal_paintFrom_59 : decode b_Pal_paintFrom 59 = .ok (.getfield 9, 3) := by decide +kernel
theorem d_Pal_paintFrom_62 : decode b_Pal_paintFrom 62 = .ok (.iload_n 2, 1) := by decide +kernel
theorem d_Pal_paintFrom_63 : decode b_Pal_paintFrom 63 = .ok (.iload 4, 2) := by decide +kernel
theorem d_Pal_paintFrom_65 : decode b_Pal_paintFrom 65 = .ok (.iastore, 1) := by decide +kernel
theorem d_Pal_paintFrom_66 : decode b_Pal_paintFrom 66 = .ok (.aload_n 0, 1) := by decide +kernel
theorem d_Pal_paintFrom_67 : decode b_Pal_paintFrom 67 = .ok (.aload_n 1, 1) := by decide +kernel
theorem d_Pal_paintFrom_68 : decode b_Pal_paintFrom 68 = .ok (.iload_n 2, 1) := by decide +kernel
theorem d_Pal_paintFrom_69 : decode b_Pal_paintFrom 69 = .ok (.iconst 1, 1) := by decide +kernel
theorem d_Pal_paintFrom_70 : decode b_Pal_paintFrom 70 = .ok (.iadd, 1) := by decide +kernel
theorem d_Pal_paintFrom_71 : decode b_Pal_paintFrom 71 = .ok (.iload_n 3, 1) := by decide +kernel
theorem d_Pal_paintFrom_72 : decode b_Pal_paintFrom 72 = .ok (.iload 4, 2) := by decide +kernel
theorem d_Pal_paintFrom_74 : decode b_Pal_paintFrom 74 = .ok (.iconst 1, 1) := by decide +kernel
theorem d_Pal_paintFrom_75 : decode b_Pal_paintFrom 75 = .ok (.iadd, 1) := by decide +kernel
theorem d_Pal_paintFrom_76 : decode b_Pal_paintFrom 76 = .ok (.invokestatic 33, 3) := by decide +kernel
theorem d_Pal_paintFrom_79 : decode b_Pal_paintFrom 79 = .ok (.invokevirtual 22, 3) := by decide +kernel
theorem d_Pal_paintFrom_82 : decode b_Pal_paintFrom 82 = .ok (.ifCond .eq 5, 3) := by decide +kernel
theorem d_Pal_paintFrom_85 : decode b_Pal_paintFrom 85 = .ok (.iconst 1, 1) := by decide +kernel
theorem d_Pal_paintFrom_86 : decode b_Pal_paintFrom 86 = .ok (.ireturn, 1) := by decide +kernel
theorem d_Pal_paintFrom_87 : decode b_Pal_paintFrom 87 = .ok (.aload_n 1, 1) := by decide +kernel
theorem d_Pal_paintFrom_88 : decode b_Pal_paintFrom 88 = .ok (.iload_n 2, 1) := by decide +kernel
theorem d_Pal_paintFrom_89 : decode b_Pal_paintFrom 89 = .ok (.invokestatic 39, 3) := by decide +kernel
theorem d_Pal_paintFrom_92 : decode b_Pal_paintFrom 92 = .ok (.ifCond .ne 5, 3) := by decide +kernel
theorem d_Pal_paintFrom_95 : decode b_Pal_paintFrom 95 = .ok (.iconst 0, 1) := by decide +kernel
theorem d_Pal_paintFrom_96 : decode b_Pal_paintFrom 96 = .ok (.ireturn, 1) := by decide +kernel
theorem d_Pal_paintFrom_97 : decode b_Pal_paintFrom 97 = .ok (.iinc 4 1, 3) := by decide +kernel
theorem d_Pal_paintFrom_100 : decode b_Pal_paintFrom 100 = .ok (.goto (-68), 3) := by decide +kernel
theorem d_Pal_paintFrom_103 : decode b_Pal_paintFrom 103 = .ok (.iconst 0, 1) := by decide +kernel
theorem d_Pal_paintFrom_104 : decode b_Pal_paintFrom 104 = .ok (.ireturn, 1) := by decide +kernel
theorem d_Pal_paintLeast_0 : decode b_Pal_paintLeast 0 = .ok (.aload_n 0, 1) := by decide +kernel
theorem d_Pal_paintLeast_1 : decode b_Pal_paintLeast 1 = .ok (.iload_n 2, 1) := by decide +kernel
theorem d_Pal_paintLeast_2 : decode b_Pal_paintLeast 2 = .ok (.putfield 15, 3) := by decide +kernel
theorem d_Pal_paintLeast_5 : decode b_Pal_paintLeast 5 = .ok (.iconst 0, 1) := by decide +kernel
theorem d_Pal_paintLeast_6 : decode b_Pal_paintLeast 6 = .ok (.istore_n 3, 1) := by decide +kernel
theorem d_Pal_paintLeast_7 : decode b_Pal_paintLeast 7 = .ok (.iload_n 3, 1) := by decide +kernel
theorem d_Pal_paintLeast_8 : decode b_Pal_paintLeast 8 = .ok (.bipush 10, 2) := by decide +kernel
theorem d_Pal_paintLeast_10 : decode b_Pal_paintLeast 10 = .ok (.if_icmp .gt 26, 3) := by decide +kernel
theorem d_Pal_paintLeast_13 : decode b_Pal_paintLeast 13 = .ok (.aload_n 0, 1) := by decide +kernel
theorem d_Pal_paintLeast_14 : decode b_Pal_paintLeast 14 = .ok (.iload_n 3, 1) := by decide +kernel
theorem d_Pal_paintLeast_15 : decode b_Pal_paintLeast 15 = .ok (.putfield 19, 3) := by decide +kernel
theorem d_Pal_paintLeast_18 : decode b_Pal_paintLeast 18 = .ok (.aload_n 0, 1) := by decide +kernel
theorem d_Pal_paintLeast_19 : decode b_Pal_paintLeast 19 = .ok (.aload_n 1, 1) := by decide +kernel
theorem d_Pal_paintLeast_20 : decode b_Pal_paintLeast 20 = .ok (.iconst 0, 1) := by decide +kernel
theorem d_Pal_paintLeast_21 : decode b_Pal_paintLeast 21 = .ok (.iconst 0, 1) := by decide +kernel
theorem d_Pal_paintLeast_22 : decode b_Pal_paintLeast 22 = .ok (.invokevirtual 22, 3) := by decide +kernel
theorem d_Pal_paintLeast_25 : decode b_Pal_paintLeast 25 = .ok (.ifCond .eq 5, 3) := by decide +kernel
theorem d_Pal_paintLeast_28 : decode b_Pal_paintLeast 28 = .ok (.iload_n 3, 1) := by decide +kernel
theorem d_Pal_paintLeast_29 : decode b_Pal_paintLeast 29 = .ok (.ireturn, 1) := by decide +kernel
theorem d_Pal_paintLeast_30 : decode b_Pal_paintLeast 30 = .ok (.iinc 3 1, 3) := by decide +kernel
theorem d_Pal_paintLeast_33 : decode b_Pal_paintLeast 33 = .ok (.goto (-26), 3) := by decide +kernel
theorem d_Pal_paintLeast_36 : decode b_Pal_paintLeast 36 = .ok (.bipush 10, 2) := by decide +kernel
theorem d_Pal_paintLeast_38 : decode b_Pal_paintLeast 38 = .ok (.ireturn, 1) := by decide +kernel
theorem d_Pal_shadeOf_0 : decode b_Pal_shadeOf 0 = .ok (.aload_n 0, 1) := by decide +kernel
theorem d_Pal_shadeOf_1 : decode b_Pal_shadeOf 1 = .ok (.getfield 9, 3) := by decide +kernel
theorem d_Pal_shadeOf_4 : decode b_Pal_shadeOf 4 = .ok (.iload_n 1, 1) := by decide +kernel
theorem d_Pal_shadeOf_5 : decode b_Pal_shadeOf 5 = .ok (.iaload, 1) := by decide +kernel
theorem d_Pal_shadeOf_6 : decode b_Pal_shadeOf 6 = .ok (.ireturn, 1) := by decide +kernel
