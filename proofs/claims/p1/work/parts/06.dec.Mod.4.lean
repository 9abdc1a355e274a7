theorem d_Mod_piecesWithout_2 : decode b_Mod_piecesWithout 2 = .ok (.iconst 0, 1) := by decide +kernel
theorem d_Mod_piecesWithout_3 : decode b_Mod_piecesWithout 3 = .ok (.istore 4, 2) := by decide +kernel
theorem d_Mod_piecesWithout_5 : decode b_Mod_piecesWithout 5 = .ok (.iload 4, 2) := by decide +kernel
theorem d_Mod_piecesWithout_7 : decode b_Mod_piecesWithout 7 = .ok (.bipush 10, 2) := by decide +kernel
theorem d_Mod_piecesWithout_9 : decode b_Mod_piecesWithout 9 = .ok (.if_icmp .ge 42, 3) := by decide +kernel
theorem d_Mod_piecesWithout_12 : decode b_Mod_piecesWithout 12 = .ok (.aload_n 0, 1) := by decide +kernel
theorem d_Mod_piecesWithout_13 : decode b_Mod_piecesWithout 13 = .ok (.getfield 59, 3) := by decide +kernel
theorem d_Mod_piecesWithout_16 : decode b_Mod_piecesWithout 16 = .ok (.iload 4, 2) := by decide +kernel
theorem d_Mod_piecesWithout_18 : decode b_Mod_piecesWithout 18 = .ok (.iload 4, 2) := by decide +kernel
theorem d_Mod_piecesWithout_20 : decode b_Mod_piecesWithout 20 = .ok (.iastore, 1) := by decide +kernel
theorem d_Mod_piecesWithout_21 : decode b_Mod_piecesWithout 21 = .ok (.aload_n 0, 1) := by decide +kernel
theorem d_Mod_piecesWithout_22 : decode b_Mod_piecesWithout 22 = .ok (.getfield 7, 3) := by decide +kernel
theorem d_Mod_piecesWithout_25 : decode b_Mod_piecesWithout 25 = .ok (.iload 4, 2) := by decide +kernel
theorem d_Mod_piecesWithout_27 : decode b_Mod_piecesWithout 27 = .ok (.baload, 1) := by decide +kernel
theorem d_Mod_piecesWithout_28 : decode b_Mod_piecesWithout 28 = .ok (.ifCond .eq 15, 3) := by decide +kernel
theorem d_Mod_piecesWithout_43 : decode b_Mod_piecesWithout 43 = .ok (.iload_n 3, 1) := by decide +kernel
theorem d_Mod_piecesWithout_44 : decode b_Mod_piecesWithout 44 = .ok (.istore_n 3, 1) := by decide +kernel
theorem d_Mod_piecesWithout_45 : decode b_Mod_piecesWithout 45 = .ok (.iinc 4 1, 3) := by decide +kernel
theorem d_Mod_piecesWithout_48 : decode b_Mod_piecesWithout 48 = .ok (.goto (-43), 3) := by decide +kernel
theorem d_Mod_piecesWithout_51 : decode b_Mod_piecesWithout 51 = .ok (.iconst 0, 1) := by decide +kernel
theorem d_Mod_piecesWithout_52 : decode b_Mod_piecesWithout 52 = .ok (.istore 4, 2) := by decide +kernel
theorem d_Mod_piecesWithout_54 : decode b_Mod_piecesWithout 54 = .ok (.iload 4, 2) := by decide +kernel
theorem d_Mod_piecesWithout_56 : decode b_Mod_piecesWithout 56 = .ok (.bipush 24, 2) := by decide +kernel
theorem d_Mod_piecesWithout_58 : decode b_Mod_piecesWithout 58 = .ok (.if_icmp .ge 160, 3) := by decide +kernel
theorem d_Mod_piecesWithout_61 : decode b_Mod_piecesWithout 61 = .ok (.aload_n 0, 1) := by decide +kernel
theorem d_Mod_piecesWithout_62 : decode b_Mod_piecesWithout 62 = .ok (.getfield 13, 3) := by decide +kernel
theorem d_Mod_piecesWithout_65 : decode b_Mod_piecesWithout 65 = .ok (.iload 4, 2) := by decide +kernel
theorem d_Mod_piecesWithout_67 : decode b_Mod_piecesWithout 67 = .ok (.iaload, 1) := by decide +kernel
theorem d_Mod_piecesWithout_68 : decode b_Mod_piecesWithout 68 = .ok (.ifCond .lt 35, 3) := by decide +kernel
theorem d_Mod_piecesWithout_103 : decode b_Mod_piecesWithout 103 = .ok (.iconst 0, 1) := by decide +kernel
theorem d_Mod_piecesWithout_104 : decode b_Mod_piecesWithout 104 = .ok (.istore 5, 2) := by decide +kernel
theorem d_Mod_piecesWithout_106 : decode b_Mod_piecesWithout 106 = .ok (.iload 5, 2) := by decide +kernel
theorem d_Mod_piecesWithout_108 : decode b_Mod_piecesWithout 108 = .ok (.ifCond .eq 104, 3) := by decide +kernel
theorem d_Mod_piecesWithout_212 : decode b_Mod_piecesWithout 212 = .ok (.iinc 4 1, 3) := by decide +kernel
theorem d_Mod_piecesWithout_215 : decode b_Mod_piecesWithout 215 = .ok (.goto (-161), 3) := by decide +kernel
theorem d_Mod_piecesWithout_218 : decode b_Mod_piecesWithout 218 = .ok (.iload_n 3, 1) := by decide +kernel
theorem d_Mod_piecesWithout_219 : decode b_Mod_piecesWithout 219 = .ok (.ireturn, 1) := by decide +kernel
theorem d_Mod_place_0 : decode b_Mod_place 0 = .ok (.aload_n 0, 1) := by decide +kernel
theorem d_Mod_place_1 : decode b_Mod_place 1 = .ok (.iload_n 1, 1) := by decide +kernel
theorem d_Mod_place_2 : decode b_Mod_place 2 = .ok (.invokestatic 72, 3) := by decide +kernel
theorem d_Mod_place_5 : decode b_Mod_place 5 = .ok (.ifCond .ne 7, 3) := by decide +kernel
theorem d_Mod_place_8 : decode b_Mod_place 8 = .ok (.iconst 1, 1) := by decide +kernel
theorem d_Mod_place_9 : decode b_Mod_place 9 = .ok (.goto 4, 3) := by decide +kernel
theorem d_Mod_place_12 : decode b_Mod_place 12 = .ok (.iconst 0, 1) := by decide +kernel
theorem d_Mod_place_13 : decode b_Mod_place 13 = .ok (.iload_n 2, 1) := by decide +kernel
theorem d_Mod_place_14 : decode b_Mod_place 14 = .ok (.ifCond .lt 19, 3) := by decide +kernel
theorem d_Mod_place_17 : decode b_Mod_place 17 = .ok (.iload_n 2, 1) := by decide +kernel
theorem d_Mod_place_18 : decode b_Mod_place 18 = .ok (.bipush 30, 2) := by decide +kernel
theorem d_Mod_place_20 : decode b_Mod_place 20 = .ok (.if_icmp .gt 13, 3) := by decide +kernel
theorem d_Mod_place_23 : decode b_Mod_place 23 = .ok (.iload_n 3, 1) := by decide +kernel
theorem d_Mod_place_24 : decode b_Mod_place 24 = .ok (.ifCond .lt 9, 3) := by decide +kernel
theorem d_Mod_place_27 : decode b_Mod_place 27 = .ok (.iload_n 3, 1) := by decide +kernel
theorem d_Mod_place_28 : decode b_Mod_place 28 = .ok (.bipush 30, 2) := by decide +kernel
theorem d_Mod_place_30 : decode b_Mod_place 30 = .ok (.if_icmp .le 7, 3) := by decide +kernel
theorem d_Mod_place_33 : decode b_Mod_place 33 = .ok (.iconst 1, 1) := by decide +kernel
theorem d_Mod_place_34 : decode b_Mod_place 34 = .ok (.goto 4, 3) := by decide +kernel
theorem d_Mod_place_37 : decode b_Mod_place 37 = .ok (.iconst 0, 1) := by decide +kernel
theorem d_Mod_place_38 : decode b_Mod_place 38 = .ok (.iconst 0, 1) := by decide +kernel
theorem d_Mod_place_39 : decode b_Mod_place 39 = .ok (.invokevirtual 79, 3) := by decide +kernel
theorem d_Mod_place_42 : decode b_Mod_place 42 = .ok (.ifCond .eq 5, 3) := by decide +kernel
theorem d_Mod_place_45 : decode b_Mod_place 45 = .ok (.iconst 0, 1) := by decide +kernel
theorem d_Mod_place_46 : decode b_Mod_place 46 = .ok (.ireturn, 1) := by decide +kernel
theorem d_Mod_place_47 : decode b_Mod_place 47 = .ok (.aload_n 0, 1) := by decide +kernel
theorem d_Mod_place_48 : decode b_Mod_place 48 = .ok (.getfield 20, 3) := by decide +kernel
theorem d_Mod_place_51 : decode b_Mod_place 51 = .ok (.iload_n 1, 1) := by decide +kernel
theorem d_Mod_place_52 : decode b_Mod_place 52 = .ok (.iload_n 2, 1) := by decide +kernel
theorem d_Mod_place_53 : decode b_Mod_place 53 = .ok (.iastore, 1) := by decide +kernel
theorem d_Mod_place_54 : decode b_Mod_place 54 = .ok (.aload_n 0, 1) := by decide +kernel
theorem d_Mod_place_55 : decode b_Mod_place 55 = .ok (.getfield 23, 3) := by decide +kernel
theorem d_Mod_place_58 : decode b_Mod_place 58 = .ok (.iload_n 1, 1) := by decide +kernel
theorem d_Mod_place_59 : decode b_Mod_place 59 = .ok (.iload_n 3, 1) := by decide +kernel
theorem d_Mod_place_60 : decode b_Mod_place 60 = .ok (.iastore, 1) := by decide +kernel
theorem d_Mod_place_61 : decode b_Mod_place 61 = .ok (.aload_n 0, 1) := by decide +kernel
theorem d_Mod_place_62 : decode b_Mod_place 62 = .ok (.invokevirtual 197, 3) := by decide +kernel
theorem d_Mod_place_65 : decode b_Mod_place 65 = .ok (.ireturn, 1) := by decide +kernel
theorem d_Mod_refused_0 : decode b_Mod_refused 0 = .ok (.aload_n 0, 1) := by decide +kernel
theorem d_Mod_refused_1 : decode b_Mod_refused 1 = .ok (.iload_n 1, 1) := by decide +kernel
theorem d_Mod_refused_2 : decode b_Mod_refused 2 = .ok (.ifCond .eq 7, 3) := by decide +kernel
theorem d_Mod_refused_5 : decode b_Mod_refused 5 = .ok (.iconst 1, 1) := by decide +kernel
theorem d_Mod_refused_6 : decode b_Mod_refused 6 = .ok (.goto 20, 3) := by decide +kernel
theorem d_Mod_refused_9 : decode b_Mod_refused 9 = .ok (.iload_n 2, 1) := by decide +kernel
theorem d_Mod_refused_10 : decode b_Mod_refused 10 = .ok (.ifCond .eq 7, 3) := by decide +kernel
theorem d_Mod_refused_13 : decode b_Mod_refused 13 = .ok (.iconst 2, 1) := by decide +kernel
theorem d_Mod_refused_14 : decode b_Mod_refused 14 = .ok (.goto 12, 3) := by decide +kernel
theorem d_Mod_refused_17 : decode b_Mod_refused 17 = .ok (.iload_n 3, 1) := by decide +kernel
theorem d_Mod_refused_18 : decode b_Mod_refused 18 = .ok (.ifCond .eq 7, 3) := by decide +kernel
theorem d_Mod_refused_21 : decode b_Mod_refused 21 = .ok (.iconst 3, 1) := by decide +kernel
theorem d_Mod_refused_22 : decode b_Mod_refused 22 = .ok (.goto 4, 3) := by decide +kernel
theorem d_Mod_refused_25 : decode b_Mod_refused 25 = .ok (.iconst 0, 1) := by decide +kernel
theorem d_Mod_refused_26 : decode b_Mod_refused 26 = .ok (.putfield 68, 3) := by decide +kernel
theorem d_Mod_refused_29 : decode b_Mod_refused 29 = .ok (.aload_n 0, 1) := by decide +kernel
theorem d_Mod_refused_30 : decode b_Mod_refused 30 = .ok (.getfield 68, 3) := by decide +kernel
theorem d_Mod_refused_33 : decode b_Mod_refused 33 = .ok (.ifCond .le 7, 3) := by decide +kernel
theorem d_Mod_refused_36 : decode b_Mod_refused 36 = .ok (.iconst 1, 1) := by decide +kernel
theorem d_Mod_refused_37 : decode b_Mod_refused 37 = .ok (.goto 4, 3) := by decide +kernel
theorem d_Mod_refused_40 : decode b_Mod_refused 40 = .ok (.iconst 0, 1) := by decide +kernel
theorem d_Mod_refused_41 : decode b_Mod_refused 41 = .ok (.ireturn, 1) := by decide +kernel
theorem d_Mod_room_0 : decode b_Mod_room 0 = .ok (.aload_n 0, 1) := by decide +kernel
theorem d_Mod_room_1 : decode b_Mod_room 1 = .ok (.iconst 0, 1) := by decide +kernel
theorem d_Mod_room_2 : decode b_Mod_room 2 = .ok (.putfield 68, 3) := by decide +kernel
theorem d_Mod_room_5 : decode b_Mod_room 5 = .ok (.iconst 0, 1) := by decide +kernel
theorem d_Mod_room_6 : decode b_Mod_room 6 = .ok (.istore_n 1, 1) := by decide +kernel
theorem d_Mod_room_7 : decode b_Mod_room 7 = .ok (.iconst 0, 1) := by decide +kernel
theorem d_Mod_room_8 : decode b_Mod_room 8 = .ok (.istore_n 2, 1) := by decide +kernel
theorem d_Mod_room_9 : decode b_Mod_room 9 = .ok (.iload_n 2, 1) := by decide +kernel
theorem d_Mod_room_10 : decode b_Mod_room 10 = .ok (.bipush 10, 2) := by decide +kernel
theorem d_Mod_room_12 : decode b_Mod_room 12 = .ok (.if_icmp .ge 69, 3) := by decide +kernel
theorem d_Mod_room_15 : decode b_Mod_room 15 = .ok (.iload_n 2, 1) := by decide +kernel
theorem d_Mod_room_16 : decode b_Mod_room 16 = .ok (.iconst 1, 1) := by decide +kernel
theorem d_Mod_room_17 : decode b_Mod_room 17 = .ok (.iadd, 1) := by decide +kernel
theorem d_Mod_room_18 : decode b_Mod_room 18 = .ok (.istore_n 3, 1) := by decide +kernel
theorem d_Mod_room_19 : decode b_Mod_room 19 = .ok (.iload_n 3, 1) := by decide +kernel
theorem d_Mod_room_20 : decode b_Mod_room 20 = .ok (.bipush 10, 2) := by decide +kernel
theorem d_Mod_room_22 : decode b_Mod_room 22 = .ok (.if_icmp .ge 53, 3) := by decide +kernel
theorem d_Mod_room_25 : decode b_Mod_room 25 = .ok (.aload_n 0, 1) := by decide +kernel
theorem d_Mod_room_26 : decode b_Mod_room 26 = .ok (.getfield 7, 3) := by decide +kernel
theorem d_Mod_room_29 : decode b_Mod_room 29 = .ok (.iload_n 2, 1) := by decide +kernel
theorem d_Mod_room_30 : decode b_Mod_room 30 = .ok (.baload, 1) := by decide +kernel
theorem d_Mod_room_31 : decode b_Mod_room 31 = .ok (.ifCond .eq 36, 3) := by decide +kernel
theorem d_Mod_room_67 : decode b_Mod_room 67 = .ok (.iload_n 1, 1) := by decide +kernel
theorem d_Mod_room_68 : decode b_Mod_room 68 = .ok (.istore_n 1, 1) := by decide +kernel
theorem d_Mod_room_69 : decode b_Mod_room 69 = .ok (.iinc 3 1, 3) := by decide +kernel
theorem d_Mod_room_72 : decode b_Mod_room 72 = .ok (.goto (-53), 3) := by decide +kernel
theorem d_Mod_room_75 : decode b_Mod_room 75 = .ok (.iinc 2 1, 3) := by decide +kernel
theorem d_Mod_room_78 : decode b_Mod_room 78 = .ok (.goto (-69), 3) := by decide +kernel
theorem d_Mod_room_81 : decode b_Mod_room 81 = .ok (.iload_n 1, 1) := by decide +kernel
theorem d_Mod_room_82 : decode b_Mod_room 82 = .ok (.ireturn, 1) := by decide +kernel
theorem d_Mod_spare_0 : decode b_Mod_spare 0 = .ok (.aload_n 0, 1) := by decide +kernel
theorem d_Mod_spare_1 : decode b_Mod_spare 1 = .ok (.iconst 0, 1) := by decide +kernel
theorem d_Mod_spare_2 : decode b_Mod_spare 2 = .ok (.putfield 68, 3) := by decide +kernel
theorem d_Mod_spare_5 : decode b_Mod_spare 5 = .ok (.aload_n 0, 1) := by decide +kernel
theorem d_Mod_spare_6 : decode b_Mod_spare 6 = .ok (.invokevirtual 103, 3) := by decide +kernel
theorem d_Mod_spare_9 : decode b_Mod_spare 9 = .ok (.istore_n 1, 1) := by decide +kernel
theorem d_Mod_spare_10 : decode b_Mod_spare 10 = .ok (.aload_n 0, 1) := by decide +kernel
theorem d_Mod_spare_11 : decode b_Mod_spare 11 = .ok (.iload_n 1, 1) := by decide +kernel
theorem d_Mod_spare_12 : decode b_Mod_spare 12 = .ok (.invokevirtual 151, 3) := by decide +kernel
theorem d_Mod_spare_15 : decode b_Mod_spare 15 = .ok (.ifCond .eq 5, 3) := by decide +kernel
theorem d_Mod_spare_18 : decode b_Mod_spare 18 = .ok (.iconst 0, 1) := by decide +kernel
theorem d_Mod_spare_19 : decode b_Mod_spare 19 = .ok (.ireturn, 1) := by decide +kernel
theorem d_Mod_thrown_0 : decode b_Mod_thrown 0 = .ok (.aload_n 0, 1) := by decide +kernel
theorem d_Mod_thrown_1 : decode b_Mod_thrown 1 = .ok (.getfield 68, 3) := by decide +kernel
theorem d_Mod_thrown_4 : decode b_Mod_thrown 4 = .ok (.ireturn, 1) := by decide +kernel
theorem d_Mod_walk_0 : decode b_Mod_walk 0 = .ok (.iconst 0, 1) := by decide +kernel
theorem d_Mod_walk_1 : decode b_Mod_walk 1 = .ok (.istore_n 1, 1) := by decide +kernel
theorem d_Mod_walk_2 : decode b_Mod_walk 2 = .ok (.iload_n 1, 1) := by decide +kernel
theorem d_Mod_walk_3 : decode b_Mod_walk 3 = .ok (.aload_n 0, 1) := by decide +kernel
theorem d_Mod_walk_4 : decode b_Mod_walk 4 = .ok (.getfield 106, 3) := by decide +kernel
theorem d_Mod_walk_7 : decode b_Mod_walk 7 = .ok (.if_icmp .ge 30, 3) := by decide +kernel
theorem d_Mod_walk_37 : decode b_Mod_walk 37 = .ok (.iconst 0, 1) := by decide +kernel
theorem d_Mod_walk_38 : decode b_Mod_walk 38 = .ok (.istore_n 1, 1) := by decide +kernel
theorem d_Mod_walk_39 : decode b_Mod_walk 39 = .ok (.iload_n 1, 1) := by decide +kernel
theorem d_Mod_walk_40 : decode b_Mod_walk 40 = .ok (.bipush 11, 2) := by decide +kernel
theorem d_Mod_walk_42 : decode b_Mod_walk 42 = .ok (.if_icmp .ge 16, 3) := by decide +kernel
theorem d_Mod_walk_45 : decode b_Mod_walk 45 = .ok (.aload_n 0, 1) := by decide +kernel
theorem d_Mod_walk_46 : decode b_Mod_walk 46 = .ok (.getfield 41, 3) := by decide +kernel
theorem d_Mod_walk_49 : decode b_Mod_walk 49 = .ok (.iload_n 1, 1) := by decide +kernel
theorem d_Mod_walk_50 : decode b_Mod_walk 50 = .ok (.iconst (-1), 1) := by decide +kernel
theorem d_Mod_walk_51 : decode b_Mod_walk 51 = .ok (.iastore, 1) := by decide +kernel
theorem d_Mod_walk_52 : decode b_Mod_walk 52 = .ok (.iinc 1 1, 3) := by decide +kernel
theorem d_Mod_walk_55 : decode b_Mod_walk 55 = .ok (.goto (-16), 3) := by decide +kernel
theorem d_Mod_walk_58 : decode b_Mod_walk 58 = .ok (.iconst 0, 1) := by decide +kernel
theorem d_Mod_walk_59 : decode b_Mod_walk 59 = .ok (.istore_n 1, 1) := by decide +kernel
theorem d_Mod_walk_60 : decode b_Mod_walk 60 = .ok (.iload_n 1, 1) := by decide +kernel
theorem d_Mod_walk_61 : decode b_Mod_walk 61 = .ok (.bipush 11, 2) := by decide +kernel
theorem d_Mod_walk_63 : decode b_Mod_walk 63 = .ok (.if_icmp .ge 23, 3) := by decide +kernel
theorem d_Mod_walk_66 : decode b_Mod_walk 66 = .ok (.aload_n 0, 1) := by decide +kernel
theorem d_Mod_walk_67 : decode b_Mod_walk 67 = .ok (.getfield 41, 3) := by decide +kernel
theorem d_Mod_walk_70 : decode b_Mod_walk 70 = .ok (.iload_n 1, 1) := by decide +kernel
theorem d_Mod_walk_71 : decode b_Mod_walk 71 = .ok (.iaload, 1) := by decide +kernel
theorem d_Mod_walk_72 : decode b_Mod_walk 72 = .ok (.ifCond .ge 8, 3) := by decide +kernel
theorem d_Mod_walk_75 : decode b_Mod_walk 75 = .ok (.aload_n 0, 1) := by decide +kernel
theorem d_Mod_walk_76 : decode b_Mod_walk 76 = .ok (.iload_n 1, 1) := by decide +kernel
theorem d_Mod_walk_77 : decode b_Mod_walk 77 = .ok (.invokevirtual 113, 3) := by decide +kernel
theorem d_Mod_walk_80 : decode b_Mod_walk 80 = .ok (.iinc 1 1, 3) := by decide +kernel
theorem d_Mod_walk_83 : decode b_Mod_walk 83 = .ok (.goto (-23), 3) := by decide +kernel
theorem d_Mod_walk_86 : decode b_Mod_walk 86 = .ok (.return_, 1) := by decide +kernel
theorem d_Mod_walkFrom_0 : decode b_Mod_walkFrom 0 = .ok (.iconst 1, 1) := by decide +kernel
theorem d_Mod_walkFrom_1 : decode b_Mod_walkFrom 1 = .ok (.istore_n 2, 1) := by decide +kernel
theorem d_Mod_walkFrom_2 : decode b_Mod_walkFrom 2 = .ok (.aload_n 0, 1) := by decide +kernel
theorem d_Mod_walkFrom_3 : decode b_Mod_walkFrom 3 = .ok (.getfield 47, 3) := by decide +kernel
theorem d_Mod_walkFrom_6 : decode b_Mod_walkFrom 6 = .ok (.iconst 0, 1) := by decide +kernel
theorem d_Mod_walkFrom_7 : decode b_Mod_walkFrom 7 = .ok (.iload_n 1, 1) := by decide +kernel
theorem d_Mod_walkFrom_8 : decode b_Mod_walkFrom 8 = .ok (.iastore, 1) := by decide +kernel
theorem d_Mod_walkFrom_9 : decode b_Mod_walkFrom 9 = .ok (.aload_n 0, 1) := by decide +kernel
theorem d_Mod_walkFrom_10 : decode b_Mod_walkFrom 10 = .ok (.getfield 50, 3) := by decide +kernel
theorem d_Mod_walkFrom_13 : decode b_Mod_walkFrom 13 = .ok (.iconst 0, 1) := by decide +kernel
theorem d_Mod_walkFrom_14 : decode b_Mod_walkFrom 14 = .ok (.iconst 0, 1) := by decide +kernel
theorem d_Mod_walkFrom_15 : decode b_Mod_walkFrom 15 = .ok (.iastore, 1) := by decide +kernel
theorem d_Mod_walkFrom_16 : decode b_Mod_walkFrom 16 = .ok (.aload_n 0, 1) := by decide +kernel
theorem d_Mod_walkFrom_17 : decode b_Mod_walkFrom 17 = .ok (.getfield 41, 3) := by decide +kernel
theorem d_Mod_walkFrom_20 : decode b_Mod_walkFrom 20 = .ok (.iload_n 1, 1) := by decide +kernel
theorem d_Mod_walkFrom_21 : decode b_Mod_walkFrom 21 = .ok (.iconst 0, 1) := by decide +kernel
theorem d_Mod_walkFrom_22 : decode b_Mod_walkFrom 22 = .ok (.iastore, 1) := by decide +kernel
theorem d_Mod_walkFrom_23 : decode b_Mod_walkFrom 23 = .ok (.aload_n 0, 1) := by decide +kernel
theorem d_Mod_walkFrom_24 : decode b_Mod_walkFrom 24 = .ok (.getfield 44, 3) := by decide +kernel
theorem d_Mod_walkFrom_27 : decode b_Mod_walkFrom 27 = .ok (.iload_n 1, 1) := by decide +kernel
theorem d_Mod_walkFrom_28 : decode b_Mod_walkFrom 28 = .ok (.iconst (-1), 1) := by decide +kernel
theorem d_Mod_walkFrom_29 : decode b_Mod_walkFrom 29 = .ok (.iastore, 1) := by decide +kernel
theorem d_Mod_walkFrom_30 : decode b_Mod_walkFrom 30 = .ok (.iload_n 2, 1) := by decide +kernel
theorem d_Mod_walkFrom_31 : decode b_Mod_walkFrom 31 = .ok (.ifCond .le 204, 3) := by decide +kernel
theorem d_Mod_walkFrom_34 : decode b_Mod_walkFrom 34 = .ok (.aload_n 0, 1) := by decide +kernel
theorem d_Mod_walkFrom_35 : decode b_Mod_walkFrom 35 = .ok (.getfield 47, 3) := by decide +kernel
theorem d_Mod_walkFrom_38 : decode b_Mod_walkFrom 38 = .ok (.iload_n 2, 1) := by decide +kernel
theorem d_Mod_walkFrom_39 : decode b_Mod_walkFrom 39 = .ok (.iconst 1, 1) := by decide +kernel
theorem d_Mod_walkFrom_40 : decode b_Mod_walkFrom 40 = .ok (.isub, 1) := by decide +kernel
theorem d_Mod_walkFrom_41 : decode b_Mod_walkFrom 41 = .ok (.iaload, 1) := by decide +kernel
theorem d_Mod_walkFrom_42 : decode b_Mod_walkFrom 42 = .ok (.istore_n 3, 1) := by decide +kernel
theorem d_Mod_walkFrom_43 : decode b_Mod_walkFrom 43 = .ok (.aload_n 0, 1) := by decide +kernel
theorem d_Mod_walkFrom_44 : decode b_Mod_walkFrom 44 = .ok (.getfield 50, 3) := by decide +kernel
theorem d_Mod_walkFrom_47 : decode b_Mod_walkFrom 47 = .ok (.iload_n 2, 1) := by decide +kernel
theorem d_Mod_walkFrom_48 : decode b_Mod_walkFrom 48 = .ok (.iconst 1, 1) := by decide +kernel
theorem d_Mod_walkFrom_49 : decode b_Mod_walkFrom 49 = .ok (.isub, 1) := by decide +kernel
theorem d_Mod_walkFrom_50 : decode b_Mod_walkFrom 50 = .ok (.iaload, 1) := by decide +kernel
theorem d_Mod_walkFrom_51 : decode b_Mod_walkFrom 51 = .ok (.istore 4, 2) := by decide +kernel
theorem d_Mod_walkFrom_53 : decode b_Mod_walkFrom 53 = .ok (.aload_n 0, 1) := by decide +kernel
theorem d_Mod_walkFrom_54 : decode b_Mod_walkFrom 54 = .ok (.getfield 50, 3) := by decide +kernel
theorem d_Mod_walkFrom_57 : decode b_Mod_walkFrom 57 = .ok (.iload_n 2, 1) := by decide +kernel
theorem d_Mod_walkFrom_58 : decode b_Mod_walkFrom 58 = .ok (.iconst 1, 1) := by decide +kernel
theorem d_Mod_walkFrom_59 : decode b_Mod_walkFrom 59 = .ok (.isub, 1) := by decide +kernel
theorem d_Mod_walkFrom_60 : decode b_Mod_walkFrom 60 = .ok (.dup2, 1) := by decide +kernel
theorem d_Mod_walkFrom_61 : decode b_Mod_walkFrom 61 = .ok (.iaload, 1) := by decide +kernel
theorem d_Mod_walkFrom_62 : decode b_Mod_walkFrom 62 = .ok (.iconst 1, 1) := by decide +kernel
theorem d_Mod_walkFrom_63 : decode b_Mod_walkFrom 63 = .ok (.iadd, 1) := by decide +kernel
theorem d_Mod_walkFrom_64 : decode b_Mod_walkFrom 64 = .ok (.iastore, 1) := by decide +kernel
theorem d_Mod_walkFrom_65 : decode b_Mod_walkFrom 65 = .ok (.iload 4, 2) := by decide +kernel
theorem d_Mod_walkFrom_67 : decode b_Mod_walkFrom 67 = .ok (.aload_n 0, 1) := by decide +kernel
theorem d_Mod_walkFrom_68 : decode b_Mod_walkFrom 68 = .ok (.getfield 106, 3) := by decide +kernel
theorem d_Mod_walkFrom_71 : decode b_Mod_walkFrom 71 = .ok (.if_icmp .ne 9, 3) := by decide +kernel
theorem d_Mod_walkFrom_74 : decode b_Mod_walkFrom 74 = .ok (.iinc 2 (-1), 3) := by decide +kernel
theorem d_Mod_walkFrom_77 : decode b_Mod_walkFrom 77 = .ok (.goto 155, 3) := by decide +kernel
theorem d_Mod_walkFrom_232 : decode b_Mod_walkFrom 232 = .ok (.goto (-202), 3) := by decide +kernel
theorem d_Mod_walkFrom_235 : decode b_Mod_walkFrom 235 = .ok (.return_, 1) := by decide +kernel
theorem d_Mod_witness_0 : decode b_Mod_witness 0 = .ok (.aload_n 0, 1) := by decide +kernel
theorem d_Mod_witness_1 : decode b_Mod_witness 1 = .ok (.iconst 0, 1) := by decide +kernel
theorem d_Mod_witness_2 : decode b_Mod_witness 2 = .ok (.putfield 68, 3) := by decide +kernel
theorem d_Mod_witness_5 : decode b_Mod_witness 5 = .ok (.aload_n 0, 1) := by decide +kernel
theorem d_Mod_witness_6 : decode b_Mod_witness 6 = .ok (.invokevirtual 157, 3) := by decide +kernel
theorem d_Mod_witness_9 : decode b_Mod_witness 9 = .ok (.istore_n 1, 1) := by decide +kernel
theorem d_Mod_witness_10 : decode b_Mod_witness 10 = .ok (.iload_n 1, 1) := by decide +kernel
theorem d_Mod_witness_11 : decode b_Mod_witness 11 = .ok (.ifCond .ne 7, 3) := by decide +kernel
theorem d_Mod_witness_14 : decode b_Mod_witness 14 = .ok (.iconst 0, 1) := by decide +kernel
theorem d_Mod_witness_15 : decode b_Mod_witness 15 = .ok (.goto 18, 3) := by decide +kernel
theorem d_Mod_witness_33 : decode b_Mod_witness 33 = .ok (.ireturn, 1) := by decide +kernel
theorem d_Mod_wrong_0 : decode b_Mod_wrong 0 = .ok (.aload_n 0, 1) := by decide +kernel
theorem d_Mod_wrong_1 : decode b_Mod_wrong 1 = .ok (.iconst 0, 1) := by decide +kernel
theorem d_Mod_wrong_2 : decode b_Mod_wrong 2 = .ok (.putfield 68, 3) := by decide +kernel
theorem d_Mod_wrong_5 : decode b_Mod_wrong 5 = .ok (.aload_n 0, 1) := by decide +kernel
theorem d_Mod_wrong_6 : decode b_Mod_wrong 6 = .ok (.invokevirtual 203, 3) := by decide +kernel
theorem d_Mod_wrong_9 : decode b_Mod_wrong 9 = .ok (.ireturn, 1) := by decide +kernel
theorem d_Mod_wrongNodes_0 : decode b_Mod_wrongNodes 0 = .ok (.iconst 0, 1) := by decide +kernel
