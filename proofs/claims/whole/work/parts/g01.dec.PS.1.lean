theorem d_PS_box_11 : decode b_PS_box 11 = .ok (.iconst 2, 1) := by decide +kernel
theorem d_PS_box_12 : decode b_PS_box 12 = .ok (.aload_n 0, 1) := by decide +kernel
theorem d_PS_box_13 : decode b_PS_box 13 = .ok (.getfield 40, 3) := by decide +kernel
theorem d_PS_box_16 : decode b_PS_box 16 = .ok (.aload_n 0, 1) := by decide +kernel
theorem d_PS_box_17 : decode b_PS_box 17 = .ok (.getfield 44, 3) := by decide +kernel
theorem d_PS_box_20 : decode b_PS_box 20 = .ok (.invokevirtual 205, 3) := by decide +kernel
theorem d_PS_box_23 : decode b_PS_box 23 = .ok (.imul, 1) := by decide +kernel
theorem d_PS_box_24 : decode b_PS_box 24 = .ok (.iconst 1, 1) := by decide +kernel
theorem d_PS_box_25 : decode b_PS_box 25 = .ok (.iadd, 1) := by decide +kernel
theorem d_PS_canDrawWith_0 : decode b_PS_canDrawWith 0 = .ok (.aload_n 0, 1) := by decide +kernel
theorem d_PS_canDrawWith_1 : decode b_PS_canDrawWith 1 = .ok (.aload_n 0, 1) := by decide +kernel
theorem d_PS_canDrawWith_2 : decode b_PS_canDrawWith 2 = .ok (.getfield 48, 3) := by decide +kernel
theorem d_PS_canDrawWith_5 : decode b_PS_canDrawWith 5 = .ok (.invokevirtual 149, 3) := by decide +kernel
theorem d_PS_canDrawWith_8 : decode b_PS_canDrawWith 8 = .ok (.aload_n 0, 1) := by decide +kernel
theorem d_PS_canDrawWith_9 : decode b_PS_canDrawWith 9 = .ok (.getfield 19, 3) := by decide +kernel
theorem d_PS_canDrawWith_12 : decode b_PS_canDrawWith 12 = .ok (.iload_n 1, 1) := by decide +kernel
theorem d_PS_canDrawWith_13 : decode b_PS_canDrawWith 13 = .ok (.iload_n 2, 1) := by decide +kernel
theorem d_PS_canDrawWith_14 : decode b_PS_canDrawWith 14 = .ok (.invokevirtual 153, 3) := by decide +kernel
theorem d_PS_canDrawWith_17 : decode b_PS_canDrawWith 17 = .ok (.aload_n 0, 1) := by decide +kernel
theorem d_PS_canDrawWith_18 : decode b_PS_canDrawWith 18 = .ok (.getfield 26, 3) := by decide +kernel
theorem d_PS_canDrawWith_21 : decode b_PS_canDrawWith 21 = .ok (.aload_n 0, 1) := by decide +kernel
theorem d_PS_canDrawWith_22 : decode b_PS_canDrawWith 22 = .ok (.getfield 19, 3) := by decide +kernel
theorem d_PS_canDrawWith_25 : decode b_PS_canDrawWith 25 = .ok (.invokevirtual 157, 3) := by decide +kernel
theorem d_PS_canDrawWith_28 : decode b_PS_canDrawWith 28 = .ok (.ireturn, 1) := by decide +kernel
theorem d_PS_cornersFacingTheLeast_0 : decode b_PS_cornersFacingTheLeast 0 = .ok (.aload_n 0, 1) := by decide +kernel
theorem d_PS_cornersFacingTheLeast_1 : decode b_PS_cornersFacingTheLeast 1 = .ok (.iload_n 1, 1) := by decide +kernel
theorem d_PS_cornersFacingTheLeast_2 : decode b_PS_cornersFacingTheLeast 2 = .ok (.invokevirtual 149, 3) := by decide +kernel
theorem d_PS_cornersFacingTheLeast_5 : decode b_PS_cornersFacingTheLeast 5 = .ok (.iload_n 2, 1) := by decide +kernel
theorem d_PS_cornersFacingTheLeast_6 : decode b_PS_cornersFacingTheLeast 6 = .ok (.iconst 0, 1) := by decide +kernel
theorem d_PS_cornersFacingTheLeast_7 : decode b_PS_cornersFacingTheLeast 7 = .ok (.invokestatic 133, 3) := by decide +kernel
theorem d_PS_cornersFacingTheLeast_10 : decode b_PS_cornersFacingTheLeast 10 = .ok (.istore_n 3, 1) := by decide +kernel
theorem d_PS_cornersFacingTheLeast_11 : decode b_PS_cornersFacingTheLeast 11 = .ok (.iload_n 3, 1) := by decide +kernel
theorem d_PS_cornersFacingTheLeast_12 : decode b_PS_cornersFacingTheLeast 12 = .ok (.iconst (-1), 1) := by decide +kernel
theorem d_PS_cornersFacingTheLeast_13 : decode b_PS_cornersFacingTheLeast 13 = .ok (.if_icmp .ne 5, 3) := by decide +kernel
theorem d_PS_cornersFacingTheLeast_16 : decode b_PS_cornersFacingTheLeast 16 = .ok (.iconst 0, 1) := by decide +kernel
theorem d_PS_cornersFacingTheLeast_17 : decode b_PS_cornersFacingTheLeast 17 = .ok (.ireturn, 1) := by decide +kernel
theorem d_PS_cornersFacingTheLeast_18 : decode b_PS_cornersFacingTheLeast 18 = .ok (.aload_n 0, 1) := by decide +kernel
theorem d_PS_cornersFacingTheLeast_19 : decode b_PS_cornersFacingTheLeast 19 = .ok (.getfield 19, 3) := by decide +kernel
theorem d_PS_cornersFacingTheLeast_22 : decode b_PS_cornersFacingTheLeast 22 = .ok (.iload_n 3, 1) := by decide +kernel
theorem d_PS_cornersFacingTheLeast_23 : decode b_PS_cornersFacingTheLeast 23 = .ok (.iload_n 2, 1) := by decide +kernel
theorem d_PS_cornersFacingTheLeast_24 : decode b_PS_cornersFacingTheLeast 24 = .ok (.iconst (-1), 1) := by decide +kernel
theorem d_PS_cornersFacingTheLeast_25 : decode b_PS_cornersFacingTheLeast 25 = .ok (.ixor, 1) := by decide +kernel
theorem d_PS_cornersFacingTheLeast_26 : decode b_PS_cornersFacingTheLeast 26 = .ok (.invokevirtual 217, 3) := by decide +kernel
theorem d_PS_cornersFacingTheLeast_29 : decode b_PS_cornersFacingTheLeast 29 = .ok (.iload_n 2, 1) := by decide +kernel
theorem d_PS_cornersFacingTheLeast_30 : decode b_PS_cornersFacingTheLeast 30 = .ok (.iand, 1) := by decide +kernel
theorem d_PS_cornersFacingTheLeast_31 : decode b_PS_cornersFacingTheLeast 31 = .ok (.iconst 1, 1) := by decide +kernel
theorem d_PS_cornersFacingTheLeast_32 : decode b_PS_cornersFacingTheLeast 32 = .ok (.iload_n 3, 1) := by decide +kernel
theorem d_PS_cornersFacingTheLeast_33 : decode b_PS_cornersFacingTheLeast 33 = .ok (.ishl, 1) := by decide +kernel
theorem d_PS_cornersFacingTheLeast_34 : decode b_PS_cornersFacingTheLeast 34 = .ok (.iconst (-1), 1) := by decide +kernel
theorem d_PS_cornersFacingTheLeast_35 : decode b_PS_cornersFacingTheLeast 35 = .ok (.ixor, 1) := by decide +kernel
theorem d_PS_cornersFacingTheLeast_36 : decode b_PS_cornersFacingTheLeast 36 = .ok (.iand, 1) := by decide +kernel
theorem d_PS_cornersFacingTheLeast_37 : decode b_PS_cornersFacingTheLeast 37 = .ok (.ireturn, 1) := by decide +kernel
theorem d_PS_cornersOf_0 : decode b_PS_cornersOf 0 = .ok (.aload_n 0, 1) := by decide +kernel
theorem d_PS_cornersOf_1 : decode b_PS_cornersOf 1 = .ok (.iload_n 1, 1) := by decide +kernel
theorem d_PS_cornersOf_2 : decode b_PS_cornersOf 2 = .ok (.invokevirtual 149, 3) := by decide +kernel
theorem d_PS_cornersOf_5 : decode b_PS_cornersOf 5 = .ok (.iconst 0, 1) := by decide +kernel
theorem d_PS_cornersOf_6 : decode b_PS_cornersOf 6 = .ok (.istore_n 2, 1) := by decide +kernel
theorem d_PS_cornersOf_7 : decode b_PS_cornersOf 7 = .ok (.iconst 0, 1) := by decide +kernel
theorem d_PS_cornersOf_8 : decode b_PS_cornersOf 8 = .ok (.istore_n 3, 1) := by decide +kernel
theorem d_PS_cornersOf_9 : decode b_PS_cornersOf 9 = .ok (.iload_n 3, 1) := by decide +kernel
theorem d_PS_cornersOf_10 : decode b_PS_cornersOf 10 = .ok (.bipush 10, 2) := by decide +kernel
theorem d_PS_cornersOf_12 : decode b_PS_cornersOf 12 = .ok (.if_icmp .ge 27, 3) := by decide +kernel
theorem d_PS_cornersOf_15 : decode b_PS_cornersOf 15 = .ok (.aload_n 0, 1) := by decide +kernel
theorem d_PS_cornersOf_16 : decode b_PS_cornersOf 16 = .ok (.getfield 19, 3) := by decide +kernel
theorem d_PS_cornersOf_19 : decode b_PS_cornersOf 19 = .ok (.iload_n 3, 1) := by decide +kernel
theorem d_PS_cornersOf_20 : decode b_PS_cornersOf 20 = .ok (.invokevirtual 214, 3) := by decide +kernel
theorem d_PS_cornersOf_23 : decode b_PS_cornersOf 23 = .ok (.iconst 3, 1) := by decide +kernel
theorem d_PS_cornersOf_24 : decode b_PS_cornersOf 24 = .ok (.if_icmp .lt 9, 3) := by decide +kernel
theorem d_PS_cornersOf_27 : decode b_PS_cornersOf 27 = .ok (.iload_n 2, 1) := by decide +kernel
theorem d_PS_cornersOf_28 : decode b_PS_cornersOf 28 = .ok (.iconst 1, 1) := by decide +kernel
theorem d_PS_cornersOf_29 : decode b_PS_cornersOf 29 = .ok (.iload_n 3, 1) := by decide +kernel
theorem d_PS_cornersOf_30 : decode b_PS_cornersOf 30 = .ok (.ishl, 1) := by decide +kernel
theorem d_PS_cornersOf_31 : decode b_PS_cornersOf 31 = .ok (.ior, 1) := by decide +kernel
theorem d_PS_cornersOf_32 : decode b_PS_cornersOf 32 = .ok (.istore_n 2, 1) := by decide +kernel
theorem d_PS_cornersOf_33 : decode b_PS_cornersOf 33 = .ok (.iinc 3 1, 3) := by decide +kernel
theorem d_PS_cornersOf_36 : decode b_PS_cornersOf 36 = .ok (.goto (-27), 3) := by decide +kernel
theorem d_PS_cornersOf_39 : decode b_PS_cornersOf 39 = .ok (.iload_n 2, 1) := by decide +kernel
theorem d_PS_cornersOf_40 : decode b_PS_cornersOf 40 = .ok (.ireturn, 1) := by decide +kernel
theorem d_PS_countPieces_29 : decode b_PS_countPieces 29 = .ok (.iload_n 3, 1) := by decide +kernel
theorem d_PS_countPieces_30 : decode b_PS_countPieces 30 = .ok (.iload 5, 2) := by decide +kernel
theorem d_PS_countPieces_32 : decode b_PS_countPieces 32 = .ok (.invokestatic 62, 3) := by decide +kernel
theorem d_PS_countPieces_35 : decode b_PS_countPieces 35 = .ok (.ifCond .ne 21, 3) := by decide +kernel
theorem d_PS_countPieces_38 : decode b_PS_countPieces 38 = .ok (.iload_n 3, 1) := by decide +kernel
theorem d_PS_countPieces_39 : decode b_PS_countPieces 39 = .ok (.aload_n 0, 1) := by decide +kernel
theorem d_PS_countPieces_40 : decode b_PS_countPieces 40 = .ok (.getfield 19, 3) := by decide +kernel
theorem d_PS_countPieces_43 : decode b_PS_countPieces 43 = .ok (.iload 5, 2) := by decide +kernel
theorem d_PS_countPieces_45 : decode b_PS_countPieces 45 = .ok (.iload_n 1, 1) := by decide +kernel
theorem d_PS_countPieces_46 : decode b_PS_countPieces 46 = .ok (.invokevirtual 217, 3) := by decide +kernel
theorem d_PS_countPieces_49 : decode b_PS_countPieces 49 = .ok (.iload_n 1, 1) := by decide +kernel
theorem d_PS_countPieces_50 : decode b_PS_countPieces 50 = .ok (.iand, 1) := by decide +kernel
theorem d_PS_countPieces_51 : decode b_PS_countPieces 51 = .ok (.ior, 1) := by decide +kernel
theorem d_PS_countPieces_52 : decode b_PS_countPieces 52 = .ok (.istore_n 3, 1) := by decide +kernel
theorem d_PS_countPieces_53 : decode b_PS_countPieces 53 = .ok (.iinc 4 1, 3) := by decide +kernel
theorem d_PS_flat_18 : decode b_PS_flat 18 = .ok (.iconst 0, 1) := by decide +kernel
theorem d_PS_forbiddenLines_13 : decode b_PS_forbiddenLines 13 = .ok (.aload_n 0, 1) := by decide +kernel
theorem d_PS_forbiddenLines_14 : decode b_PS_forbiddenLines 14 = .ok (.getfield 48, 3) := by decide +kernel
theorem d_PS_forbiddenLines_17 : decode b_PS_forbiddenLines 17 = .ok (.istore_n 1, 1) := by decide +kernel
theorem d_PS_forbiddenLines_18 : decode b_PS_forbiddenLines 18 = .ok (.iconst 0, 1) := by decide +kernel
theorem d_PS_forbiddenLines_19 : decode b_PS_forbiddenLines 19 = .ok (.istore_n 2, 1) := by decide +kernel
theorem d_PS_forbiddenLines_20 : decode b_PS_forbiddenLines 20 = .ok (.iload_n 2, 1) := by decide +kernel
theorem d_PS_forbiddenLines_21 : decode b_PS_forbiddenLines 21 = .ok (.bipush 24, 2) := by decide +kernel
theorem d_PS_forbiddenLines_23 : decode b_PS_forbiddenLines 23 = .ok (.if_icmp .ge 27, 3) := by decide +kernel
theorem d_PS_forbiddenLines_26 : decode b_PS_forbiddenLines 26 = .ok (.iload_n 1, 1) := by decide +kernel
theorem d_PS_forbiddenLines_27 : decode b_PS_forbiddenLines 27 = .ok (.iconst 1, 1) := by decide +kernel
theorem d_PS_forbiddenLines_28 : decode b_PS_forbiddenLines 28 = .ok (.iload_n 2, 1) := by decide +kernel
theorem d_PS_forbiddenLines_29 : decode b_PS_forbiddenLines 29 = .ok (.ishl, 1) := by decide +kernel
theorem d_PS_forbiddenLines_30 : decode b_PS_forbiddenLines 30 = .ok (.iconst (-1), 1) := by decide +kernel
theorem d_PS_forbiddenLines_31 : decode b_PS_forbiddenLines 31 = .ok (.ixor, 1) := by decide +kernel
theorem d_PS_forbiddenLines_32 : decode b_PS_forbiddenLines 32 = .ok (.iand, 1) := by decide +kernel
theorem d_PS_forbiddenLines_33 : decode b_PS_forbiddenLines 33 = .ok (.istore_n 3, 1) := by decide +kernel
theorem d_PS_forbiddenLines_34 : decode b_PS_forbiddenLines 34 = .ok (.aload_n 0, 1) := by decide +kernel
theorem d_PS_forbiddenLines_35 : decode b_PS_forbiddenLines 35 = .ok (.iload_n 3, 1) := by decide +kernel
theorem d_PS_forbiddenLines_36 : decode b_PS_forbiddenLines 36 = .ok (.invokevirtual 120, 3) := by decide +kernel
theorem d_PS_forbiddenLines_39 : decode b_PS_forbiddenLines 39 = .ok (.ifCond .ne 5, 3) := by decide +kernel
theorem d_PS_forbiddenLines_42 : decode b_PS_forbiddenLines 42 = .ok (.iload_n 3, 1) := by decide +kernel
theorem d_PS_forbiddenLines_43 : decode b_PS_forbiddenLines 43 = .ok (.istore_n 1, 1) := by decide +kernel
theorem d_PS_forbiddenLines_44 : decode b_PS_forbiddenLines 44 = .ok (.iinc 2 1, 3) := by decide +kernel
theorem d_PS_forbiddenLines_47 : decode b_PS_forbiddenLines 47 = .ok (.goto (-27), 3) := by decide +kernel
theorem d_PS_forbiddenLines_50 : decode b_PS_forbiddenLines 50 = .ok (.iload_n 1, 1) := by decide +kernel
theorem d_PS_forbiddenLines_51 : decode b_PS_forbiddenLines 51 = .ok (.ireturn, 1) := by decide +kernel
theorem d_PS_freeNumber_0 : decode b_PS_freeNumber 0 = .ok (.iconst 0, 1) := by decide +kernel
theorem d_PS_freeNumber_1 : decode b_PS_freeNumber 1 = .ok (.istore_n 1, 1) := by decide +kernel
theorem d_PS_freeNumber_2 : decode b_PS_freeNumber 2 = .ok (.iload_n 1, 1) := by decide +kernel
theorem d_PS_freeNumber_3 : decode b_PS_freeNumber 3 = .ok (.bipush 24, 2) := by decide +kernel
theorem d_PS_freeNumber_5 : decode b_PS_freeNumber 5 = .ok (.if_icmp .ge 22, 3) := by decide +kernel
theorem d_PS_freeNumber_8 : decode b_PS_freeNumber 8 = .ok (.aload_n 0, 1) := by decide +kernel
theorem d_PS_freeNumber_9 : decode b_PS_freeNumber 9 = .ok (.getfield 48, 3) := by decide +kernel
theorem d_PS_freeNumber_12 : decode b_PS_freeNumber 12 = .ok (.iload_n 1, 1) := by decide +kernel
theorem d_PS_freeNumber_13 : decode b_PS_freeNumber 13 = .ok (.invokestatic 62, 3) := by decide +kernel
theorem d_PS_freeNumber_16 : decode b_PS_freeNumber 16 = .ok (.ifCond .ne 5, 3) := by decide +kernel
theorem d_PS_freeNumber_19 : decode b_PS_freeNumber 19 = .ok (.iload_n 1, 1) := by decide +kernel
theorem d_PS_freeNumber_20 : decode b_PS_freeNumber 20 = .ok (.ireturn, 1) := by decide +kernel
theorem d_PS_freeNumber_21 : decode b_PS_freeNumber 21 = .ok (.iinc 1 1, 3) := by decide +kernel
theorem d_PS_freeNumber_24 : decode b_PS_freeNumber 24 = .ok (.goto (-22), 3) := by decide +kernel
theorem d_PS_freeNumber_27 : decode b_PS_freeNumber 27 = .ok (.iconst (-1), 1) := by decide +kernel
theorem d_PS_freeNumber_28 : decode b_PS_freeNumber 28 = .ok (.ireturn, 1) := by decide +kernel
theorem d_PS_isEnd_0 : decode b_PS_isEnd 0 = .ok (.aload_n 0, 1) := by decide +kernel
theorem d_PS_isEnd_1 : decode b_PS_isEnd 1 = .ok (.getfield 9, 3) := by decide +kernel
theorem d_PS_isEnd_4 : decode b_PS_isEnd 4 = .ok (.iload_n 2, 1) := by decide +kernel
theorem d_PS_isEnd_5 : decode b_PS_isEnd 5 = .ok (.iaload, 1) := by decide +kernel
theorem d_PS_isEnd_6 : decode b_PS_isEnd 6 = .ok (.iload_n 1, 1) := by decide +kernel
theorem d_PS_isEnd_7 : decode b_PS_isEnd 7 = .ok (.if_icmp .eq 13, 3) := by decide +kernel
theorem d_PS_isEnd_10 : decode b_PS_isEnd 10 = .ok (.aload_n 0, 1) := by decide +kernel
theorem d_PS_isEnd_11 : decode b_PS_isEnd 11 = .ok (.getfield 13, 3) := by decide +kernel
theorem d_PS_isEnd_14 : decode b_PS_isEnd 14 = .ok (.iload_n 2, 1) := by decide +kernel
theorem d_PS_isEnd_15 : decode b_PS_isEnd 15 = .ok (.iaload, 1) := by decide +kernel
theorem d_PS_isEnd_16 : decode b_PS_isEnd 16 = .ok (.iload_n 1, 1) := by decide +kernel
theorem d_PS_isEnd_17 : decode b_PS_isEnd 17 = .ok (.if_icmp .ne 7, 3) := by decide +kernel
theorem d_PS_isEnd_20 : decode b_PS_isEnd 20 = .ok (.iconst 1, 1) := by decide +kernel
theorem d_PS_isEnd_21 : decode b_PS_isEnd 21 = .ok (.goto 4, 3) := by decide +kernel
theorem d_PS_isEnd_24 : decode b_PS_isEnd 24 = .ok (.iconst 0, 1) := by decide +kernel
theorem d_PS_isEnd_25 : decode b_PS_isEnd 25 = .ok (.ireturn, 1) := by decide +kernel
theorem d_PS_joined_0 : decode b_PS_joined 0 = .ok (.aload_n 0, 1) := by decide +kernel
theorem d_PS_joined_1 : decode b_PS_joined 1 = .ok (.iload_n 1, 1) := by decide +kernel
theorem d_PS_joined_2 : decode b_PS_joined 2 = .ok (.invokevirtual 115, 3) := by decide +kernel
theorem d_PS_joined_5 : decode b_PS_joined 5 = .ok (.aload_n 0, 1) := by decide +kernel
theorem d_PS_joined_6 : decode b_PS_joined 6 = .ok (.iload_n 2, 1) := by decide +kernel
theorem d_PS_joined_7 : decode b_PS_joined 7 = .ok (.invokevirtual 115, 3) := by decide +kernel
theorem d_PS_joined_10 : decode b_PS_joined 10 = .ok (.iand, 1) := by decide +kernel
theorem d_PS_joined_11 : decode b_PS_joined 11 = .ok (.ifCond .eq 7, 3) := by decide +kernel
theorem d_PS_joined_14 : decode b_PS_joined 14 = .ok (.iconst 1, 1) := by decide +kernel
theorem d_PS_joined_15 : decode b_PS_joined 15 = .ok (.goto 4, 3) := by decide +kernel
theorem d_PS_joined_18 : decode b_PS_joined 18 = .ok (.iconst 0, 1) := by decide +kernel
theorem d_PS_joined_19 : decode b_PS_joined 19 = .ok (.ireturn, 1) := by decide +kernel
theorem d_PS_liesWrongly_0 : decode b_PS_liesWrongly 0 = .ok (.iconst 0, 1) := by decide +kernel
theorem d_PS_liesWrongly_1 : decode b_PS_liesWrongly 1 = .ok (.istore_n 2, 1) := by decide +kernel
theorem d_PS_liesWrongly_2 : decode b_PS_liesWrongly 2 = .ok (.iload_n 2, 1) := by decide +kernel
theorem d_PS_liesWrongly_3 : decode b_PS_liesWrongly 3 = .ok (.bipush 10, 2) := by decide +kernel
theorem d_PS_liesWrongly_5 : decode b_PS_liesWrongly 5 = .ok (.if_icmp .ge 39, 3) := by decide +kernel
theorem d_PS_liesWrongly_8 : decode b_PS_liesWrongly 8 = .ok (.iload_n 2, 1) := by decide +kernel
theorem d_PS_liesWrongly_9 : decode b_PS_liesWrongly 9 = .ok (.iload_n 1, 1) := by decide +kernel
theorem d_PS_liesWrongly_10 : decode b_PS_liesWrongly 10 = .ok (.if_icmp .eq 28, 3) := by decide +kernel
theorem d_PS_liesWrongly_13 : decode b_PS_liesWrongly 13 = .ok (.aload_n 0, 1) := by decide +kernel
theorem d_PS_liesWrongly_14 : decode b_PS_liesWrongly 14 = .ok (.getfield 44, 3) := by decide +kernel
theorem d_PS_liesWrongly_17 : decode b_PS_liesWrongly 17 = .ok (.iload_n 2, 1) := by decide +kernel
theorem d_PS_liesWrongly_18 : decode b_PS_liesWrongly 18 = .ok (.invokestatic 62, 3) := by decide +kernel
theorem d_PS_liesWrongly_21 : decode b_PS_liesWrongly 21 = .ok (.ifCond .eq 17, 3) := by decide +kernel
theorem d_PS_liesWrongly_24 : decode b_PS_liesWrongly 24 = .ok (.aload_n 0, 1) := by decide +kernel
theorem d_PS_liesWrongly_25 : decode b_PS_liesWrongly 25 = .ok (.getfield 40, 3) := by decide +kernel
theorem d_PS_liesWrongly_28 : decode b_PS_liesWrongly 28 = .ok (.iload_n 1, 1) := by decide +kernel
theorem d_PS_liesWrongly_29 : decode b_PS_liesWrongly 29 = .ok (.iload_n 2, 1) := by decide +kernel
theorem d_PS_liesWrongly_30 : decode b_PS_liesWrongly 30 = .ok (.invokevirtual 231, 3) := by decide +kernel
theorem d_PS_liesWrongly_33 : decode b_PS_liesWrongly 33 = .ok (.ifCond .eq 5, 3) := by decide +kernel
theorem d_PS_liesWrongly_36 : decode b_PS_liesWrongly 36 = .ok (.iconst 1, 1) := by decide +kernel
theorem d_PS_liesWrongly_37 : decode b_PS_liesWrongly 37 = .ok (.ireturn, 1) := by decide +kernel
theorem d_PS_liesWrongly_38 : decode b_PS_liesWrongly 38 = .ok (.iinc 2 1, 3) := by decide +kernel
theorem d_PS_liesWrongly_41 : decode b_PS_liesWrongly 41 = .ok (.goto (-39), 3) := by decide +kernel
theorem d_PS_liesWrongly_44 : decode b_PS_liesWrongly 44 = .ok (.iconst 0, 1) := by decide +kernel
theorem d_PS_liesWrongly_45 : decode b_PS_liesWrongly 45 = .ok (.istore_n 2, 1) := by decide +kernel
theorem d_PS_liesWrongly_46 : decode b_PS_liesWrongly 46 = .ok (.iload_n 2, 1) := by decide +kernel
theorem d_PS_liesWrongly_47 : decode b_PS_liesWrongly 47 = .ok (.bipush 24, 2) := by decide +kernel
theorem d_PS_liesWrongly_49 : decode b_PS_liesWrongly 49 = .ok (.if_icmp .ge 54, 3) := by decide +kernel
theorem d_PS_liesWrongly_52 : decode b_PS_liesWrongly 52 = .ok (.aload_n 0, 1) := by decide +kernel
theorem d_PS_liesWrongly_53 : decode b_PS_liesWrongly 53 = .ok (.getfield 48, 3) := by decide +kernel
theorem d_PS_liesWrongly_56 : decode b_PS_liesWrongly 56 = .ok (.iload_n 2, 1) := by decide +kernel
theorem d_PS_liesWrongly_57 : decode b_PS_liesWrongly 57 = .ok (.invokestatic 62, 3) := by decide +kernel
theorem d_PS_liesWrongly_60 : decode b_PS_liesWrongly 60 = .ok (.ifCond .eq 37, 3) := by decide +kernel
theorem d_PS_liesWrongly_63 : decode b_PS_liesWrongly 63 = .ok (.aload_n 0, 1) := by decide +kernel
theorem d_PS_liesWrongly_64 : decode b_PS_liesWrongly 64 = .ok (.iload_n 1, 1) := by decide +kernel
theorem d_PS_liesWrongly_65 : decode b_PS_liesWrongly 65 = .ok (.iload_n 2, 1) := by decide +kernel
theorem d_PS_liesWrongly_66 : decode b_PS_liesWrongly 66 = .ok (.invokevirtual 208, 3) := by decide +kernel
theorem d_PS_liesWrongly_69 : decode b_PS_liesWrongly 69 = .ok (.ifCond .ne 28, 3) := by decide +kernel
theorem d_PS_liesWrongly_72 : decode b_PS_liesWrongly 72 = .ok (.aload_n 0, 1) := by decide +kernel
theorem d_PS_liesWrongly_73 : decode b_PS_liesWrongly 73 = .ok (.getfield 40, 3) := by decide +kernel
theorem d_PS_liesWrongly_76 : decode b_PS_liesWrongly 76 = .ok (.iload_n 1, 1) := by decide +kernel
theorem d_PS_liesWrongly_77 : decode b_PS_liesWrongly 77 = .ok (.aload_n 0, 1) := by decide +kernel
theorem d_PS_liesWrongly_78 : decode b_PS_liesWrongly 78 = .ok (.getfield 9, 3) := by decide +kernel
theorem d_PS_liesWrongly_81 : decode b_PS_liesWrongly 81 = .ok (.iload_n 2, 1) := by decide +kernel
theorem d_PS_liesWrongly_82 : decode b_PS_liesWrongly 82 = .ok (.iaload, 1) := by decide +kernel
theorem d_PS_liesWrongly_83 : decode b_PS_liesWrongly 83 = .ok (.aload_n 0, 1) := by decide +kernel
theorem d_PS_liesWrongly_84 : decode b_PS_liesWrongly 84 = .ok (.getfield 13, 3) := by decide +kernel
theorem d_PS_liesWrongly_87 : decode b_PS_liesWrongly 87 = .ok (.iload_n 2, 1) := by decide +kernel
theorem d_PS_liesWrongly_88 : decode b_PS_liesWrongly 88 = .ok (.iaload, 1) := by decide +kernel
theorem d_PS_liesWrongly_89 : decode b_PS_liesWrongly 89 = .ok (.invokevirtual 234, 3) := by decide +kernel
theorem d_PS_liesWrongly_92 : decode b_PS_liesWrongly 92 = .ok (.ifCond .eq 5, 3) := by decide +kernel
theorem d_PS_liesWrongly_95 : decode b_PS_liesWrongly 95 = .ok (.iconst 1, 1) := by decide +kernel
theorem d_PS_liesWrongly_96 : decode b_PS_liesWrongly 96 = .ok (.ireturn, 1) := by decide +kernel
theorem d_PS_liesWrongly_97 : decode b_PS_liesWrongly 97 = .ok (.iinc 2 1, 3) := by decide +kernel
theorem d_PS_liesWrongly_100 : decode b_PS_liesWrongly 100 = .ok (.goto (-54), 3) := by decide +kernel
theorem d_PS_liesWrongly_103 : decode b_PS_liesWrongly 103 = .ok (.iconst 0, 1) := by decide +kernel
theorem d_PS_liesWrongly_104 : decode b_PS_liesWrongly 104 = .ok (.ireturn, 1) := by decide +kernel
theorem d_PS_linesOf_0 : decode b_PS_linesOf 0 = .ok (.iconst 0, 1) := by decide +kernel
theorem d_PS_linesOf_1 : decode b_PS_linesOf 1 = .ok (.istore_n 2, 1) := by decide +kernel
theorem d_PS_linesOf_2 : decode b_PS_linesOf 2 = .ok (.iconst 0, 1) := by decide +kernel
theorem d_PS_linesOf_3 : decode b_PS_linesOf 3 = .ok (.istore_n 3, 1) := by decide +kernel
theorem d_PS_linesOf_4 : decode b_PS_linesOf 4 = .ok (.iload_n 3, 1) := by decide +kernel
theorem d_PS_linesOf_5 : decode b_PS_linesOf 5 = .ok (.bipush 24, 2) := by decide +kernel
theorem d_PS_linesOf_7 : decode b_PS_linesOf 7 = .ok (.if_icmp .ge 35, 3) := by decide +kernel
theorem d_PS_linesOf_10 : decode b_PS_linesOf 10 = .ok (.aload_n 0, 1) := by decide +kernel
theorem d_PS_linesOf_11 : decode b_PS_linesOf 11 = .ok (.getfield 48, 3) := by decide +kernel
theorem d_PS_linesOf_14 : decode b_PS_linesOf 14 = .ok (.iload_n 3, 1) := by decide +kernel
theorem d_PS_linesOf_15 : decode b_PS_linesOf 15 = .ok (.invokestatic 62, 3) := by decide +kernel
theorem d_PS_linesOf_18 : decode b_PS_linesOf 18 = .ok (.ifCond .eq 18, 3) := by decide +kernel
theorem d_PS_linesOf_21 : decode b_PS_linesOf 21 = .ok (.aload_n 0, 1) := by decide +kernel
theorem d_PS_linesOf_22 : decode b_PS_linesOf 22 = .ok (.iload_n 1, 1) := by decide +kernel
theorem d_PS_linesOf_23 : decode b_PS_linesOf 23 = .ok (.iload_n 3, 1) := by decide +kernel
theorem d_PS_linesOf_24 : decode b_PS_linesOf 24 = .ok (.invokevirtual 208, 3) := by decide +kernel
theorem d_PS_linesOf_27 : decode b_PS_linesOf 27 = .ok (.ifCond .eq 9, 3) := by decide +kernel
theorem d_PS_linesOf_30 : decode b_PS_linesOf 30 = .ok (.iload_n 2, 1) := by decide +kernel
theorem d_PS_linesOf_31 : decode b_PS_linesOf 31 = .ok (.iconst 1, 1) := by decide +kernel
theorem d_PS_linesOf_32 : decode b_PS_linesOf 32 = .ok (.iload_n 3, 1) := by decide +kernel
theorem d_PS_linesOf_33 : decode b_PS_linesOf 33 = .ok (.ishl, 1) := by decide +kernel
theorem d_PS_linesOf_34 : decode b_PS_linesOf 34 = .ok (.ior, 1) := by decide +kernel
theorem d_PS_linesOf_35 : decode b_PS_linesOf 35 = .ok (.istore_n 2, 1) := by decide +kernel
theorem d_PS_linesOf_36 : decode b_PS_linesOf 36 = .ok (.iinc 3 1, 3) := by decide +kernel
theorem d_PS_linesOf_39 : decode b_PS_linesOf 39 = .ok (.goto (-35), 3) := by decide +kernel
theorem d_PS_linesOf_42 : decode b_PS_linesOf 42 = .ok (.iload_n 2, 1) := by decide +kernel
theorem d_PS_linesOf_43 : decode b_PS_linesOf 43 = .ok (.ireturn, 1) := by decide +kernel
theorem d_PS_meetWrongly_0 : decode b_PS_meetWrongly 0 = .ok (.aload_n 0, 1) := by decide +kernel
theorem d_PS_meetWrongly_1 : decode b_PS_meetWrongly 1 = .ok (.aload_n 0, 1) := by decide +kernel
