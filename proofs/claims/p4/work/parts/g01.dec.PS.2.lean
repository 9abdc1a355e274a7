theorem d_PS_cornersFacingTheLeast_33 : decode b_PS_cornersFacingTheLeast 33 = .ok (.ishl, 1) := by decide +kernel
theorem d_PS_cornersFacingTheLeast_34 : decode b_PS_cornersFacingTheLeast 34 = .ok (.iconst (-1), 1) := by decide +kernel
theorem d_PS_cornersFacingTheLeast_35 : decode b_PS_cornersFacingTheLeast 35 = .ok (.ixor, 1) := by decide +kernel
theorem d_PS_cornersFacingTheLeast_36 : decode b_PS_cornersFacingTheLeast 36 = .ok (.iand, 1) := by decide +kernel
theorem d_PS_cornersFacingTheLeast_37 : decode b_PS_cornersFacingTheLeast 37 = .ok (.ireturn, 1) := by decide +kernel
theorem d_PS_cornersOf_0 : decode b_PS_cornersOf 0 = .ok (.aload_n 0, 1) := by decide +kernel
theorem d_PS_cornersOf_1 : decode b_PS_cornersOf 1 = .ok (.iload_n 1, 1) := by decide +kernel
theorem d_PS_cornersOf_2 : decode b_PS_cornersOf 2 = .ok (.invokevirtual 149, 3) := by decide +kernel
theorem d_PS_cornersOf_5 : decode b_PS_cornersOf 5 = .ok (.iconst 0, 1) := by decide +kernel
theorem d_PS_cornersOf_6 : decode b_PS_cornersOf 6 = .ok (.istore_n 2, 1) := by decide +kernel
theorem d_PS_cornersOf_7 : decode b_PS_cornersOf 7 = .ok (.iconst 0, 1) := by decide +kernel
theorem d_PS_cornersOf_8 : decode b_PS_cornersOf 8 = .ok (.istore_n 3, 1) := by decide +kernel
theorem d_PS_cornersOf_9 : decode b_PS_cornersOf 9 = .ok (.iload_n 3, 1) := by decide +kernel
theorem d_PS_cornersOf_10 : decode b_PS_cornersOf 10 = .ok (.bipush 10, 2) := by decide +kernel
theorem d_PS_cornersOf_12 : decode b_PS_cornersOf 12 = .ok (.if_icmp .ge 27, 3) := by decide +kernel
theorem d_PS_cornersOf_15 : decode b_PS_cornersOf 15 = .ok (.aload_n 0, 1) := by decide +kernel
theorem d_PS_cornersOf_16 : decode b_PS_cornersOf 16 = .ok (.getfield 19, 3) := by decide +kernel
theorem d_PS_cornersOf_19 : decode b_PS_cornersOf 19 = .ok (.iload_n 3, 1) := by decide +kernel
theorem d_PS_cornersOf_20 : decode b_PS_cornersOf 20 = .ok (.invokevirtual 214, 3) := by decide +kernel
theorem d_PS_cornersOf_23 : decode b_PS_cornersOf 23 = .ok (.iconst 3, 1) := by decide +kernel
theorem d_PS_cornersOf_24 : decode b_PS_cornersOf 24 = .ok (.if_icmp .lt 9, 3) := by decide +kernel
theorem d_PS_cornersOf_27 : decode b_PS_cornersOf 27 = .ok (.iload_n 2, 1) := by decide +kernel
theorem d_PS_cornersOf_28 : decode b_PS_cornersOf 28 = .ok (.iconst 1, 1) := by decide +kernel
theorem d_PS_cornersOf_29 : decode b_PS_cornersOf 29 = .ok (.iload_n 3, 1) := by decide +kernel
theorem d_PS_cornersOf_30 : decode b_PS_cornersOf 30 = .ok (.ishl, 1) := by decide +kernel
theorem d_PS_cornersOf_31 : decode b_PS_cornersOf 31 = .ok (.ior, 1) := by decide +kernel
theorem d_PS_cornersOf_32 : decode b_PS_cornersOf 32 = .ok (.istore_n 2, 1) := by decide +kernel
theorem d_PS_cornersOf_33 : decode b_PS_cornersOf 33 = .ok (.iinc 3 1, 3) := by decide +kernel
theorem d_PS_cornersOf_36 : decode b_PS_cornersOf 36 = .ok (.goto (-27), 3) := by decide +kernel
theorem d_PS_cornersOf_39 : decode b_PS_cornersOf 39 = .ok (.iload_n 2, 1) := by decide +kernel
theorem d_PS_cornersOf_40 : decode b_PS_cornersOf 40 = .ok (.ireturn, 1) := by decide +kernel
theorem d_PS_could_0 : decode b_PS_could 0 = .ok (.aload_n 0, 1) := by decide +kernel
theorem d_PS_could_1 : decode b_PS_could 1 = .ok (.iload_n 1, 1) := by decide +kernel
theorem d_PS_could_2 : decode b_PS_could 2 = .ok (.invokevirtual 77, 3) := by decide +kernel
theorem d_PS_could_5 : decode b_PS_could 5 = .ok (.ifCond .eq 11, 3) := by decide +kernel
theorem d_PS_could_8 : decode b_PS_could 8 = .ok (.aload_n 0, 1) := by decide +kernel
theorem d_PS_could_9 : decode b_PS_could 9 = .ok (.iload_n 2, 1) := by decide +kernel
theorem d_PS_could_10 : decode b_PS_could 10 = .ok (.invokevirtual 77, 3) := by decide +kernel
theorem d_PS_could_13 : decode b_PS_could 13 = .ok (.ifCond .ne 13, 3) := by decide +kernel
theorem d_PS_could_16 : decode b_PS_could 16 = .ok (.new 80, 3) := by decide +kernel
theorem d_PS_could_19 : decode b_PS_could 19 = .ok (.dup, 1) := by decide +kernel
theorem d_PS_could_20 : decode b_PS_could 20 = .ok (.ldc 82, 2) := by decide +kernel
theorem d_PS_could_22 : decode b_PS_could 22 = .ok (.invokespecial 84, 3) := by decide +kernel
theorem d_PS_could_25 : decode b_PS_could 25 = .ok (.athrow, 1) := by decide +kernel
theorem d_PS_could_26 : decode b_PS_could 26 = .ok (.iload_n 1, 1) := by decide +kernel
theorem d_PS_could_27 : decode b_PS_could 27 = .ok (.iload_n 2, 1) := by decide +kernel
theorem d_PS_could_28 : decode b_PS_could 28 = .ok (.if_icmp .eq 12, 3) := by decide +kernel
theorem d_PS_could_31 : decode b_PS_could 31 = .ok (.aload_n 0, 1) := by decide +kernel
theorem d_PS_could_32 : decode b_PS_could 32 = .ok (.iload_n 1, 1) := by decide +kernel
theorem d_PS_could_33 : decode b_PS_could 33 = .ok (.iload_n 2, 1) := by decide +kernel
theorem d_PS_could_34 : decode b_PS_could 34 = .ok (.invokevirtual 94, 3) := by decide +kernel
theorem d_PS_could_37 : decode b_PS_could 37 = .ok (.ifCond .eq 13, 3) := by decide +kernel
theorem d_PS_could_40 : decode b_PS_could 40 = .ok (.new 85, 3) := by decide +kernel
theorem d_PS_could_43 : decode b_PS_could 43 = .ok (.dup, 1) := by decide +kernel
theorem d_PS_could_44 : decode b_PS_could 44 = .ok (.ldc 144, 2) := by decide +kernel
theorem d_PS_could_46 : decode b_PS_could 46 = .ok (.invokespecial 89, 3) := by decide +kernel
theorem d_PS_could_49 : decode b_PS_could 49 = .ok (.athrow, 1) := by decide +kernel
theorem d_PS_could_50 : decode b_PS_could 50 = .ok (.aload_n 0, 1) := by decide +kernel
theorem d_PS_could_51 : decode b_PS_could 51 = .ok (.iload_n 1, 1) := by decide +kernel
theorem d_PS_could_52 : decode b_PS_could 52 = .ok (.iload_n 2, 1) := by decide +kernel
theorem d_PS_could_53 : decode b_PS_could 53 = .ok (.invokevirtual 146, 3) := by decide +kernel
theorem d_PS_could_56 : decode b_PS_could 56 = .ok (.ireturn, 1) := by decide +kernel
theorem d_PS_countPieces_0 : decode b_PS_countPieces 0 = .ok (.aload_n 0, 1) := by decide +kernel
theorem d_PS_countPieces_1 : decode b_PS_countPieces 1 = .ok (.iload_n 2, 1) := by decide +kernel
theorem d_PS_countPieces_2 : decode b_PS_countPieces 2 = .ok (.invokevirtual 149, 3) := by decide +kernel
theorem d_PS_countPieces_5 : decode b_PS_countPieces 5 = .ok (.iconst 0, 1) := by decide +kernel
theorem d_PS_countPieces_6 : decode b_PS_countPieces 6 = .ok (.istore_n 3, 1) := by decide +kernel
theorem d_PS_countPieces_7 : decode b_PS_countPieces 7 = .ok (.iconst 0, 1) := by decide +kernel
theorem d_PS_countPieces_8 : decode b_PS_countPieces 8 = .ok (.istore 4, 2) := by decide +kernel
theorem d_PS_countPieces_10 : decode b_PS_countPieces 10 = .ok (.iconst 0, 1) := by decide +kernel
theorem d_PS_countPieces_11 : decode b_PS_countPieces 11 = .ok (.istore 5, 2) := by decide +kernel
theorem d_PS_countPieces_13 : decode b_PS_countPieces 13 = .ok (.iload 5, 2) := by decide +kernel
theorem d_PS_countPieces_15 : decode b_PS_countPieces 15 = .ok (.bipush 10, 2) := by decide +kernel
theorem d_PS_countPieces_17 : decode b_PS_countPieces 17 = .ok (.if_icmp .ge 45, 3) := by decide +kernel
theorem d_PS_countPieces_20 : decode b_PS_countPieces 20 = .ok (.iload_n 1, 1) := by decide +kernel
theorem d_PS_countPieces_21 : decode b_PS_countPieces 21 = .ok (.iload 5, 2) := by decide +kernel
theorem d_PS_countPieces_23 : decode b_PS_countPieces 23 = .ok (.invokestatic 62, 3) := by decide +kernel
theorem d_PS_countPieces_26 : decode b_PS_countPieces 26 = .ok (.ifCond .eq 30, 3) := by decide +kernel
theorem d_PS_countPieces_29 : decode b_PS_countPieces 29 = .ok (.iload_n 3, 1) := by decide +kernel
theorem d_PS_countPieces_30 : decode b_PS_countPieces 30 = .ok (.iload 5, 2) := by decide +kernel
theorem d_PS_countPieces_32 : decode b_PS_countPieces 32 = .ok (.invokestatic 62, 3) := by decide +kernel
theorem d_PS_countPieces_35 : decode b_PS_countPieces 35 = .ok (.ifCond .ne 21, 3) := by decide +kernel
theorem d_PS_countPieces_38 : decode b_PS_countPieces 38 = .ok (.iload_n 3, 1) := by decide +kernel
theorem d_PS_countPieces_39 : decode b_PS_countPieces 39 = .ok (.aload_n 0, 1) := by decide +kernel
theorem d_PS_countPieces_40 : decode b_PS_countPieces 40 = .ok (.getfield 19, 3) := by decide +kernel
theorem d_PS_countPieces_43 : decode b_PS_countPieces 43 = .ok (.iload 5, 2) := by decide +kernel
theorem d_PS_countPieces_45 : decode b_PS_countPieces 45 = .ok (.iload_n 1, 1) := by decide +kernel
theorem d_PS_countPieces_46 : decode b_PS_countPieces 46 = .ok (.invokevirtual 217, 3) := by decide +kernel
theorem d_PS_countPieces_49 : decode b_PS_countPieces 49 = .ok (.iload_n 1, 1) := by decide +kernel
theorem d_PS_countPieces_50 : decode b_PS_countPieces 50 = .ok (.iand, 1) := by decide +kernel
theorem d_PS_countPieces_51 : decode b_PS_countPieces 51 = .ok (.ior, 1) := by decide +kernel
theorem d_PS_countPieces_52 : decode b_PS_countPieces 52 = .ok (.istore_n 3, 1) := by decide +kernel
theorem d_PS_countPieces_53 : decode b_PS_countPieces 53 = .ok (.iinc 4 1, 3) := by decide +kernel
theorem d_PS_countPieces_56 : decode b_PS_countPieces 56 = .ok (.iinc 5 1, 3) := by decide +kernel
theorem d_PS_countPieces_59 : decode b_PS_countPieces 59 = .ok (.goto (-46), 3) := by decide +kernel
theorem d_PS_countPieces_62 : decode b_PS_countPieces 62 = .ok (.iload 4, 2) := by decide +kernel
theorem d_PS_countPieces_64 : decode b_PS_countPieces 64 = .ok (.ireturn, 1) := by decide +kernel
theorem d_PS_cut_0 : decode b_PS_cut 0 = .ok (.aload_n 0, 1) := by decide +kernel
theorem d_PS_cut_1 : decode b_PS_cut 1 = .ok (.iload_n 1, 1) := by decide +kernel
theorem d_PS_cut_2 : decode b_PS_cut 2 = .ok (.invokevirtual 108, 3) := by decide +kernel
theorem d_PS_cut_5 : decode b_PS_cut 5 = .ok (.ifCond .ne 13, 3) := by decide +kernel
theorem d_PS_cut_8 : decode b_PS_cut 8 = .ok (.new 80, 3) := by decide +kernel
theorem d_PS_cut_11 : decode b_PS_cut 11 = .ok (.dup, 1) := by decide +kernel
theorem d_PS_cut_12 : decode b_PS_cut 12 = .ok (.ldc 111, 2) := by decide +kernel
theorem d_PS_cut_14 : decode b_PS_cut 14 = .ok (.invokespecial 84, 3) := by decide +kernel
theorem d_PS_cut_17 : decode b_PS_cut 17 = .ok (.athrow, 1) := by decide +kernel
theorem d_PS_cut_18 : decode b_PS_cut 18 = .ok (.aload_n 0, 1) := by decide +kernel
theorem d_PS_cut_19 : decode b_PS_cut 19 = .ok (.dup, 1) := by decide +kernel
theorem d_PS_cut_20 : decode b_PS_cut 20 = .ok (.getfield 48, 3) := by decide +kernel
theorem d_PS_cut_23 : decode b_PS_cut 23 = .ok (.iconst 1, 1) := by decide +kernel
theorem d_PS_cut_24 : decode b_PS_cut 24 = .ok (.iload_n 1, 1) := by decide +kernel
theorem d_PS_cut_25 : decode b_PS_cut 25 = .ok (.ishl, 1) := by decide +kernel
theorem d_PS_cut_26 : decode b_PS_cut 26 = .ok (.iconst (-1), 1) := by decide +kernel
theorem d_PS_cut_27 : decode b_PS_cut 27 = .ok (.ixor, 1) := by decide +kernel
theorem d_PS_cut_28 : decode b_PS_cut 28 = .ok (.iand, 1) := by decide +kernel
theorem d_PS_cut_29 : decode b_PS_cut 29 = .ok (.putfield 48, 3) := by decide +kernel
theorem d_PS_cut_32 : decode b_PS_cut 32 = .ok (.aload_n 0, 1) := by decide +kernel
theorem d_PS_cut_33 : decode b_PS_cut 33 = .ok (.getfield 48, 3) := by decide +kernel
theorem d_PS_cut_36 : decode b_PS_cut 36 = .ok (.invokestatic 71, 3) := by decide +kernel
theorem d_PS_cut_39 : decode b_PS_cut 39 = .ok (.ireturn, 1) := by decide +kernel
theorem d_PS_drawable_0 : decode b_PS_drawable 0 = .ok (.aload_n 0, 1) := by decide +kernel
theorem d_PS_drawable_1 : decode b_PS_drawable 1 = .ok (.aload_n 0, 1) := by decide +kernel
theorem d_PS_drawable_2 : decode b_PS_drawable 2 = .ok (.getfield 48, 3) := by decide +kernel
theorem d_PS_drawable_5 : decode b_PS_drawable 5 = .ok (.invokevirtual 120, 3) := by decide +kernel
theorem d_PS_drawable_8 : decode b_PS_drawable 8 = .ok (.ireturn, 1) := by decide +kernel
theorem d_PS_drop_0 : decode b_PS_drop 0 = .ok (.aload_n 0, 1) := by decide +kernel
theorem d_PS_drop_1 : decode b_PS_drop 1 = .ok (.iload_n 1, 1) := by decide +kernel
theorem d_PS_drop_2 : decode b_PS_drop 2 = .ok (.invokevirtual 77, 3) := by decide +kernel
theorem d_PS_drop_5 : decode b_PS_drop 5 = .ok (.ifCond .ne 13, 3) := by decide +kernel
theorem d_PS_drop_8 : decode b_PS_drop 8 = .ok (.new 80, 3) := by decide +kernel
theorem d_PS_drop_11 : decode b_PS_drop 11 = .ok (.dup, 1) := by decide +kernel
theorem d_PS_drop_12 : decode b_PS_drop 12 = .ok (.ldc 113, 2) := by decide +kernel
theorem d_PS_drop_14 : decode b_PS_drop 14 = .ok (.invokespecial 84, 3) := by decide +kernel
theorem d_PS_drop_17 : decode b_PS_drop 17 = .ok (.athrow, 1) := by decide +kernel
theorem d_PS_drop_18 : decode b_PS_drop 18 = .ok (.aload_n 0, 1) := by decide +kernel
theorem d_PS_drop_19 : decode b_PS_drop 19 = .ok (.iload_n 1, 1) := by decide +kernel
theorem d_PS_drop_20 : decode b_PS_drop 20 = .ok (.invokevirtual 115, 3) := by decide +kernel
theorem d_PS_drop_23 : decode b_PS_drop 23 = .ok (.istore_n 2, 1) := by decide +kernel
theorem d_PS_drop_24 : decode b_PS_drop 24 = .ok (.aload_n 0, 1) := by decide +kernel
theorem d_PS_drop_25 : decode b_PS_drop 25 = .ok (.dup, 1) := by decide +kernel
theorem d_PS_drop_26 : decode b_PS_drop 26 = .ok (.getfield 48, 3) := by decide +kernel
theorem d_PS_drop_29 : decode b_PS_drop 29 = .ok (.iload_n 2, 1) := by decide +kernel
theorem d_PS_drop_30 : decode b_PS_drop 30 = .ok (.iconst (-1), 1) := by decide +kernel
theorem d_PS_drop_31 : decode b_PS_drop 31 = .ok (.ixor, 1) := by decide +kernel
theorem d_PS_drop_32 : decode b_PS_drop 32 = .ok (.iand, 1) := by decide +kernel
theorem d_PS_drop_33 : decode b_PS_drop 33 = .ok (.putfield 48, 3) := by decide +kernel
theorem d_PS_drop_36 : decode b_PS_drop 36 = .ok (.aload_n 0, 1) := by decide +kernel
theorem d_PS_drop_37 : decode b_PS_drop 37 = .ok (.dup, 1) := by decide +kernel
theorem d_PS_drop_38 : decode b_PS_drop 38 = .ok (.getfield 44, 3) := by decide +kernel
theorem d_PS_drop_41 : decode b_PS_drop 41 = .ok (.iconst 1, 1) := by decide +kernel
theorem d_PS_drop_42 : decode b_PS_drop 42 = .ok (.iload_n 1, 1) := by decide +kernel
theorem d_PS_drop_43 : decode b_PS_drop 43 = .ok (.ishl, 1) := by decide +kernel
theorem d_PS_drop_44 : decode b_PS_drop 44 = .ok (.iconst (-1), 1) := by decide +kernel
theorem d_PS_drop_45 : decode b_PS_drop 45 = .ok (.ixor, 1) := by decide +kernel
theorem d_PS_drop_46 : decode b_PS_drop 46 = .ok (.iand, 1) := by decide +kernel
theorem d_PS_drop_47 : decode b_PS_drop 47 = .ok (.putfield 44, 3) := by decide +kernel
theorem d_PS_drop_50 : decode b_PS_drop 50 = .ok (.iload_n 2, 1) := by decide +kernel
theorem d_PS_drop_51 : decode b_PS_drop 51 = .ok (.invokestatic 71, 3) := by decide +kernel
theorem d_PS_drop_54 : decode b_PS_drop 54 = .ok (.ireturn, 1) := by decide +kernel
theorem d_PS_end_0 : decode b_PS_end 0 = .ok (.aload_n 0, 1) := by decide +kernel
theorem d_PS_end_1 : decode b_PS_end 1 = .ok (.iload_n 1, 1) := by decide +kernel
theorem d_PS_end_2 : decode b_PS_end 2 = .ok (.invokevirtual 108, 3) := by decide +kernel
theorem d_PS_end_5 : decode b_PS_end 5 = .ok (.ifCond .ne 13, 3) := by decide +kernel
theorem d_PS_end_8 : decode b_PS_end 8 = .ok (.new 80, 3) := by decide +kernel
theorem d_PS_end_11 : decode b_PS_end 11 = .ok (.dup, 1) := by decide +kernel
theorem d_PS_end_12 : decode b_PS_end 12 = .ok (.ldc 111, 2) := by decide +kernel
theorem d_PS_end_14 : decode b_PS_end 14 = .ok (.invokespecial 84, 3) := by decide +kernel
theorem d_PS_end_17 : decode b_PS_end 17 = .ok (.athrow, 1) := by decide +kernel
theorem d_PS_end_18 : decode b_PS_end 18 = .ok (.iload_n 2, 1) := by decide +kernel
theorem d_PS_end_19 : decode b_PS_end 19 = .ok (.ifCond .eq 18, 3) := by decide +kernel
theorem d_PS_end_22 : decode b_PS_end 22 = .ok (.iload_n 2, 1) := by decide +kernel
theorem d_PS_end_23 : decode b_PS_end 23 = .ok (.iconst 1, 1) := by decide +kernel
theorem d_PS_end_24 : decode b_PS_end 24 = .ok (.if_icmp .eq 13, 3) := by decide +kernel
theorem d_PS_end_27 : decode b_PS_end 27 = .ok (.new 55, 3) := by decide +kernel
theorem d_PS_end_30 : decode b_PS_end 30 = .ok (.dup, 1) := by decide +kernel
theorem d_PS_end_31 : decode b_PS_end 31 = .ok (.ldc 118, 2) := by decide +kernel
theorem d_PS_end_33 : decode b_PS_end 33 = .ok (.invokespecial 59, 3) := by decide +kernel
theorem d_PS_end_36 : decode b_PS_end 36 = .ok (.athrow, 1) := by decide +kernel
theorem d_PS_end_37 : decode b_PS_end 37 = .ok (.iload_n 2, 1) := by decide +kernel
theorem d_PS_end_38 : decode b_PS_end 38 = .ok (.ifCond .ne 12, 3) := by decide +kernel
theorem d_PS_end_41 : decode b_PS_end 41 = .ok (.aload_n 0, 1) := by decide +kernel
theorem d_PS_end_42 : decode b_PS_end 42 = .ok (.getfield 9, 3) := by decide +kernel
theorem d_PS_end_45 : decode b_PS_end 45 = .ok (.iload_n 1, 1) := by decide +kernel
theorem d_PS_end_46 : decode b_PS_end 46 = .ok (.iaload, 1) := by decide +kernel
theorem d_PS_end_47 : decode b_PS_end 47 = .ok (.goto 9, 3) := by decide +kernel
theorem d_PS_end_50 : decode b_PS_end 50 = .ok (.aload_n 0, 1) := by decide +kernel
theorem d_PS_end_51 : decode b_PS_end 51 = .ok (.getfield 13, 3) := by decide +kernel
theorem d_PS_end_54 : decode b_PS_end 54 = .ok (.iload_n 1, 1) := by decide +kernel
theorem d_PS_end_55 : decode b_PS_end 55 = .ok (.iaload, 1) := by decide +kernel
theorem d_PS_end_56 : decode b_PS_end 56 = .ok (.ireturn, 1) := by decide +kernel
theorem d_PS_faces_0 : decode b_PS_faces 0 = .ok (.aload_n 0, 1) := by decide +kernel
theorem d_PS_faces_1 : decode b_PS_faces 1 = .ok (.aload_n 0, 1) := by decide +kernel
theorem d_PS_faces_2 : decode b_PS_faces 2 = .ok (.getfield 48, 3) := by decide +kernel
theorem d_PS_faces_5 : decode b_PS_faces 5 = .ok (.invokevirtual 120, 3) := by decide +kernel
theorem d_PS_faces_8 : decode b_PS_faces 8 = .ok (.ifCond .ne 13, 3) := by decide +kernel
theorem d_PS_faces_11 : decode b_PS_faces 11 = .ok (.new 66, 3) := by decide +kernel
theorem d_PS_faces_14 : decode b_PS_faces 14 = .ok (.dup, 1) := by decide +kernel
theorem d_PS_faces_15 : decode b_PS_faces 15 = .ok (.ldc 139, 2) := by decide +kernel
theorem d_PS_faces_17 : decode b_PS_faces 17 = .ok (.invokespecial 70, 3) := by decide +kernel
theorem d_PS_faces_20 : decode b_PS_faces 20 = .ok (.athrow, 1) := by decide +kernel
theorem d_PS_faces_21 : decode b_PS_faces 21 = .ok (.aload_n 0, 1) := by decide +kernel
theorem d_PS_faces_22 : decode b_PS_faces 22 = .ok (.getfield 48, 3) := by decide +kernel
theorem d_PS_faces_25 : decode b_PS_faces 25 = .ok (.invokestatic 71, 3) := by decide +kernel
theorem d_PS_faces_28 : decode b_PS_faces 28 = .ok (.aload_n 0, 1) := by decide +kernel
theorem d_PS_faces_29 : decode b_PS_faces 29 = .ok (.getfield 44, 3) := by decide +kernel
theorem d_PS_faces_32 : decode b_PS_faces 32 = .ok (.invokestatic 71, 3) := by decide +kernel
theorem d_PS_faces_35 : decode b_PS_faces 35 = .ok (.isub, 1) := by decide +kernel
theorem d_PS_faces_36 : decode b_PS_faces 36 = .ok (.aload_n 0, 1) := by decide +kernel
theorem d_PS_faces_37 : decode b_PS_faces 37 = .ok (.aload_n 0, 1) := by decide +kernel
theorem d_PS_faces_38 : decode b_PS_faces 38 = .ok (.getfield 44, 3) := by decide +kernel
theorem d_PS_faces_41 : decode b_PS_faces 41 = .ok (.aload_n 0, 1) := by decide +kernel
theorem d_PS_faces_42 : decode b_PS_faces 42 = .ok (.getfield 48, 3) := by decide +kernel
theorem d_PS_faces_45 : decode b_PS_faces 45 = .ok (.invokevirtual 141, 3) := by decide +kernel
theorem d_PS_faces_48 : decode b_PS_faces 48 = .ok (.iadd, 1) := by decide +kernel
theorem d_PS_faces_49 : decode b_PS_faces 49 = .ok (.iconst 1, 1) := by decide +kernel
theorem d_PS_faces_50 : decode b_PS_faces 50 = .ok (.iadd, 1) := by decide +kernel
theorem d_PS_faces_51 : decode b_PS_faces 51 = .ok (.ireturn, 1) := by decide +kernel
theorem d_PS_flat_0 : decode b_PS_flat 0 = .ok (.aload_n 0, 1) := by decide +kernel
theorem d_PS_flat_1 : decode b_PS_flat 1 = .ok (.invokevirtual 181, 3) := by decide +kernel
theorem d_PS_flat_4 : decode b_PS_flat 4 = .ok (.ifCond .ne 14, 3) := by decide +kernel
theorem d_PS_flat_7 : decode b_PS_flat 7 = .ok (.aload_n 0, 1) := by decide +kernel
theorem d_PS_flat_8 : decode b_PS_flat 8 = .ok (.invokevirtual 202, 3) := by decide +kernel
theorem d_PS_flat_11 : decode b_PS_flat 11 = .ok (.ifCond .ne 7, 3) := by decide +kernel
theorem d_PS_flat_14 : decode b_PS_flat 14 = .ok (.iconst 1, 1) := by decide +kernel
theorem d_PS_flat_15 : decode b_PS_flat 15 = .ok (.goto 4, 3) := by decide +kernel
theorem d_PS_flat_18 : decode b_PS_flat 18 = .ok (.iconst 0, 1) := by decide +kernel
theorem d_PS_flat_19 : decode b_PS_flat 19 = .ok (.ireturn, 1) := by decide +kernel
theorem d_PS_forbiddenLines_0 : decode b_PS_forbiddenLines 0 = .ok (.aload_n 0, 1) := by decide +kernel
theorem d_PS_forbiddenLines_1 : decode b_PS_forbiddenLines 1 = .ok (.aload_n 0, 1) := by decide +kernel
theorem d_PS_forbiddenLines_2 : decode b_PS_forbiddenLines 2 = .ok (.getfield 48, 3) := by decide +kernel
theorem d_PS_forbiddenLines_5 : decode b_PS_forbiddenLines 5 = .ok (.invokevirtual 120, 3) := by decide +kernel
theorem d_PS_forbiddenLines_8 : decode b_PS_forbiddenLines 8 = .ok (.ifCond .eq 5, 3) := by decide +kernel
theorem d_PS_forbiddenLines_11 : decode b_PS_forbiddenLines 11 = .ok (.iconst 0, 1) := by decide +kernel
theorem d_PS_forbiddenLines_12 : decode b_PS_forbiddenLines 12 = .ok (.ireturn, 1) := by decide +kernel
theorem d_PS_forbiddenLines_13 : decode b_PS_forbiddenLines 13 = .ok (.aload_n 0, 1) := by decide +kernel
theorem d_PS_forbiddenLines_14 : decode b_PS_forbiddenLines 14 = .ok (.getfield 48, 3) := by decide +kernel
theorem d_PS_forbiddenLines_17 : decode b_PS_forbiddenLines 17 = .ok (.istore_n 1, 1) := by decide +kernel
theorem d_PS_forbiddenLines_18 : decode b_PS_forbiddenLines 18 = .ok (.iconst 0, 1) := by decide +kernel
theorem d_PS_forbiddenLines_19 : decode b_PS_forbiddenLines 19 = .ok (.istore_n 2, 1) := by decide +kernel
theorem d_PS_forbiddenLines_20 : decode b_PS_forbiddenLines 20 = .ok (.iload_n 2, 1) := by decide +kernel
theorem d_PS_forbiddenLines_21 : decode b_PS_forbiddenLines 21 = .ok (.bipush 24, 2) := by decide +kernel
theorem d_PS_forbiddenLines_23 : decode b_PS_forbiddenLines 23 = .ok (.if_icmp .ge 27, 3) := by decide +kernel
theorem d_PS_forbiddenLines_26 : decode b_PS_forbiddenLines 26 = .ok (.iload_n 1, 1) := by decide +kernel
theorem d_PS_forbiddenLines_27 : decode b_PS_forbiddenLines 27 = .ok (.iconst 1, 1) := by decide +kernel
theorem d_PS_forbiddenLines_28 : decode b_PS_forbiddenLines 28 = .ok (.iload_n 2, 1) := by decide +kernel
theorem d_PS_forbiddenLines_29 : decode b_PS_forbiddenLines 29 = .ok (.ishl, 1) := by decide +kernel
theorem d_PS_forbiddenLines_30 : decode b_PS_forbiddenLines 30 = .ok (.iconst (-1), 1) := by decide +kernel
theorem d_PS_forbiddenLines_31 : decode b_PS_forbiddenLines 31 = .ok (.ixor, 1) := by decide +kernel
theorem d_PS_forbiddenLines_32 : decode b_PS_forbiddenLines 32 = .ok (.iand, 1) := by decide +kernel
theorem d_PS_forbiddenLines_33 : decode b_PS_forbiddenLines 33 = .ok (.istore_n 3, 1) := by decide +kernel
