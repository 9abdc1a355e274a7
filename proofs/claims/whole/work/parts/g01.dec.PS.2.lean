theorem d_PS_meetWrongly_2 : decode b_PS_meetWrongly 2 = .ok (.getfield 9, 3) := by decide +kernel
theorem d_PS_meetWrongly_5 : decode b_PS_meetWrongly 5 = .ok (.iload_n 1, 1) := by decide +kernel
theorem d_PS_meetWrongly_6 : decode b_PS_meetWrongly 6 = .ok (.iaload, 1) := by decide +kernel
theorem d_PS_meetWrongly_7 : decode b_PS_meetWrongly 7 = .ok (.iload_n 2, 1) := by decide +kernel
theorem d_PS_meetWrongly_8 : decode b_PS_meetWrongly 8 = .ok (.invokevirtual 208, 3) := by decide +kernel
theorem d_PS_meetWrongly_11 : decode b_PS_meetWrongly 11 = .ok (.ifCond .eq 12, 3) := by decide +kernel
theorem d_PS_meetWrongly_14 : decode b_PS_meetWrongly 14 = .ok (.aload_n 0, 1) := by decide +kernel
theorem d_PS_meetWrongly_15 : decode b_PS_meetWrongly 15 = .ok (.getfield 9, 3) := by decide +kernel
theorem d_PS_meetWrongly_18 : decode b_PS_meetWrongly 18 = .ok (.iload_n 1, 1) := by decide +kernel
theorem d_PS_meetWrongly_19 : decode b_PS_meetWrongly 19 = .ok (.iaload, 1) := by decide +kernel
theorem d_PS_meetWrongly_20 : decode b_PS_meetWrongly 20 = .ok (.goto 27, 3) := by decide +kernel
theorem d_PS_meetWrongly_23 : decode b_PS_meetWrongly 23 = .ok (.aload_n 0, 1) := by decide +kernel
theorem d_PS_meetWrongly_24 : decode b_PS_meetWrongly 24 = .ok (.aload_n 0, 1) := by decide +kernel
theorem d_PS_meetWrongly_25 : decode b_PS_meetWrongly 25 = .ok (.getfield 13, 3) := by decide +kernel
theorem d_PS_meetWrongly_28 : decode b_PS_meetWrongly 28 = .ok (.iload_n 1, 1) := by decide +kernel
theorem d_PS_meetWrongly_29 : decode b_PS_meetWrongly 29 = .ok (.iaload, 1) := by decide +kernel
theorem d_PS_meetWrongly_30 : decode b_PS_meetWrongly 30 = .ok (.iload_n 2, 1) := by decide +kernel
theorem d_PS_meetWrongly_31 : decode b_PS_meetWrongly 31 = .ok (.invokevirtual 208, 3) := by decide +kernel
theorem d_PS_meetWrongly_34 : decode b_PS_meetWrongly 34 = .ok (.ifCond .eq 12, 3) := by decide +kernel
theorem d_PS_meetWrongly_37 : decode b_PS_meetWrongly 37 = .ok (.aload_n 0, 1) := by decide +kernel
theorem d_PS_meetWrongly_38 : decode b_PS_meetWrongly 38 = .ok (.getfield 13, 3) := by decide +kernel
theorem d_PS_meetWrongly_41 : decode b_PS_meetWrongly 41 = .ok (.iload_n 1, 1) := by decide +kernel
theorem d_PS_meetWrongly_42 : decode b_PS_meetWrongly 42 = .ok (.iaload, 1) := by decide +kernel
theorem d_PS_meetWrongly_43 : decode b_PS_meetWrongly 43 = .ok (.goto 4, 3) := by decide +kernel
theorem d_PS_meetWrongly_46 : decode b_PS_meetWrongly 46 = .ok (.iconst (-1), 1) := by decide +kernel
theorem d_PS_meetWrongly_47 : decode b_PS_meetWrongly 47 = .ok (.istore_n 3, 1) := by decide +kernel
theorem d_PS_meetWrongly_48 : decode b_PS_meetWrongly 48 = .ok (.iload_n 3, 1) := by decide +kernel
theorem d_PS_meetWrongly_49 : decode b_PS_meetWrongly 49 = .ok (.iconst (-1), 1) := by decide +kernel
theorem d_PS_meetWrongly_50 : decode b_PS_meetWrongly 50 = .ok (.if_icmp .ne 35, 3) := by decide +kernel
theorem d_PS_meetWrongly_53 : decode b_PS_meetWrongly 53 = .ok (.aload_n 0, 1) := by decide +kernel
theorem d_PS_meetWrongly_54 : decode b_PS_meetWrongly 54 = .ok (.getfield 40, 3) := by decide +kernel
theorem d_PS_meetWrongly_57 : decode b_PS_meetWrongly 57 = .ok (.aload_n 0, 1) := by decide +kernel
theorem d_PS_meetWrongly_58 : decode b_PS_meetWrongly 58 = .ok (.getfield 9, 3) := by decide +kernel
theorem d_PS_meetWrongly_61 : decode b_PS_meetWrongly 61 = .ok (.iload_n 1, 1) := by decide +kernel
theorem d_PS_meetWrongly_62 : decode b_PS_meetWrongly 62 = .ok (.iaload, 1) := by decide +kernel
theorem d_PS_meetWrongly_63 : decode b_PS_meetWrongly 63 = .ok (.aload_n 0, 1) := by decide +kernel
theorem d_PS_meetWrongly_64 : decode b_PS_meetWrongly 64 = .ok (.getfield 13, 3) := by decide +kernel
theorem d_PS_meetWrongly_67 : decode b_PS_meetWrongly 67 = .ok (.iload_n 1, 1) := by decide +kernel
theorem d_PS_meetWrongly_68 : decode b_PS_meetWrongly 68 = .ok (.iaload, 1) := by decide +kernel
theorem d_PS_meetWrongly_69 : decode b_PS_meetWrongly 69 = .ok (.aload_n 0, 1) := by decide +kernel
theorem d_PS_meetWrongly_70 : decode b_PS_meetWrongly 70 = .ok (.getfield 9, 3) := by decide +kernel
theorem d_PS_meetWrongly_73 : decode b_PS_meetWrongly 73 = .ok (.iload_n 2, 1) := by decide +kernel
theorem d_PS_meetWrongly_74 : decode b_PS_meetWrongly 74 = .ok (.iaload, 1) := by decide +kernel
theorem d_PS_meetWrongly_75 : decode b_PS_meetWrongly 75 = .ok (.aload_n 0, 1) := by decide +kernel
theorem d_PS_meetWrongly_76 : decode b_PS_meetWrongly 76 = .ok (.getfield 13, 3) := by decide +kernel
theorem d_PS_meetWrongly_79 : decode b_PS_meetWrongly 79 = .ok (.iload_n 2, 1) := by decide +kernel
theorem d_PS_meetWrongly_80 : decode b_PS_meetWrongly 80 = .ok (.iaload, 1) := by decide +kernel
theorem d_PS_meetWrongly_81 : decode b_PS_meetWrongly 81 = .ok (.invokevirtual 220, 3) := by decide +kernel
theorem d_PS_meetWrongly_84 : decode b_PS_meetWrongly 84 = .ok (.ireturn, 1) := by decide +kernel
theorem d_PS_meetWrongly_85 : decode b_PS_meetWrongly 85 = .ok (.aload_n 0, 1) := by decide +kernel
theorem d_PS_meetWrongly_86 : decode b_PS_meetWrongly 86 = .ok (.getfield 40, 3) := by decide +kernel
theorem d_PS_meetWrongly_89 : decode b_PS_meetWrongly 89 = .ok (.iload_n 3, 1) := by decide +kernel
theorem d_PS_meetWrongly_90 : decode b_PS_meetWrongly 90 = .ok (.aload_n 0, 1) := by decide +kernel
theorem d_PS_meetWrongly_91 : decode b_PS_meetWrongly 91 = .ok (.iload_n 1, 1) := by decide +kernel
theorem d_PS_meetWrongly_92 : decode b_PS_meetWrongly 92 = .ok (.iload_n 3, 1) := by decide +kernel
theorem d_PS_meetWrongly_93 : decode b_PS_meetWrongly 93 = .ok (.invokevirtual 224, 3) := by decide +kernel
theorem d_PS_meetWrongly_96 : decode b_PS_meetWrongly 96 = .ok (.aload_n 0, 1) := by decide +kernel
theorem d_PS_meetWrongly_97 : decode b_PS_meetWrongly 97 = .ok (.iload_n 2, 1) := by decide +kernel
theorem d_PS_meetWrongly_98 : decode b_PS_meetWrongly 98 = .ok (.iload_n 3, 1) := by decide +kernel
theorem d_PS_meetWrongly_99 : decode b_PS_meetWrongly 99 = .ok (.invokevirtual 224, 3) := by decide +kernel
theorem d_PS_meetWrongly_102 : decode b_PS_meetWrongly 102 = .ok (.invokevirtual 227, 3) := by decide +kernel
theorem d_PS_meetWrongly_105 : decode b_PS_meetWrongly 105 = .ok (.ireturn, 1) := by decide +kernel
theorem d_PS_nthOf_0 : decode b_PS_nthOf 0 = .ok (.iconst 0, 1) := by decide +kernel
theorem d_PS_nthOf_1 : decode b_PS_nthOf 1 = .ok (.istore_n 2, 1) := by decide +kernel
theorem d_PS_nthOf_2 : decode b_PS_nthOf 2 = .ok (.iconst 0, 1) := by decide +kernel
theorem d_PS_nthOf_3 : decode b_PS_nthOf 3 = .ok (.istore_n 3, 1) := by decide +kernel
theorem d_PS_nthOf_4 : decode b_PS_nthOf 4 = .ok (.iload_n 3, 1) := by decide +kernel
theorem d_PS_nthOf_5 : decode b_PS_nthOf 5 = .ok (.bipush 10, 2) := by decide +kernel
theorem d_PS_nthOf_7 : decode b_PS_nthOf 7 = .ok (.if_icmp .ge 27, 3) := by decide +kernel
theorem d_PS_nthOf_10 : decode b_PS_nthOf 10 = .ok (.iload_n 0, 1) := by decide +kernel
theorem d_PS_nthOf_11 : decode b_PS_nthOf 11 = .ok (.iload_n 3, 1) := by decide +kernel
theorem d_PS_nthOf_12 : decode b_PS_nthOf 12 = .ok (.invokestatic 62, 3) := by decide +kernel
theorem d_PS_nthOf_15 : decode b_PS_nthOf 15 = .ok (.ifCond .eq 13, 3) := by decide +kernel
theorem d_PS_nthOf_18 : decode b_PS_nthOf 18 = .ok (.iload_n 2, 1) := by decide +kernel
theorem d_PS_nthOf_19 : decode b_PS_nthOf 19 = .ok (.iload_n 1, 1) := by decide +kernel
theorem d_PS_nthOf_20 : decode b_PS_nthOf 20 = .ok (.if_icmp .ne 5, 3) := by decide +kernel
theorem d_PS_nthOf_23 : decode b_PS_nthOf 23 = .ok (.iload_n 3, 1) := by decide +kernel
theorem d_PS_nthOf_24 : decode b_PS_nthOf 24 = .ok (.ireturn, 1) := by decide +kernel
theorem d_PS_nthOf_25 : decode b_PS_nthOf 25 = .ok (.iinc 2 1, 3) := by decide +kernel
theorem d_PS_nthOf_28 : decode b_PS_nthOf 28 = .ok (.iinc 3 1, 3) := by decide +kernel
theorem d_PS_nthOf_31 : decode b_PS_nthOf 31 = .ok (.goto (-27), 3) := by decide +kernel
theorem d_PS_nthOf_34 : decode b_PS_nthOf 34 = .ok (.iconst (-1), 1) := by decide +kernel
theorem d_PS_nthOf_35 : decode b_PS_nthOf 35 = .ok (.ireturn, 1) := by decide +kernel
theorem d_PS_oneIsEnough_0 : decode b_PS_oneIsEnough 0 = .ok (.iconst 0, 1) := by decide +kernel
theorem d_PS_oneIsEnough_1 : decode b_PS_oneIsEnough 1 = .ok (.istore_n 1, 1) := by decide +kernel
theorem d_PS_oneIsEnough_2 : decode b_PS_oneIsEnough 2 = .ok (.iload_n 1, 1) := by decide +kernel
theorem d_PS_oneIsEnough_3 : decode b_PS_oneIsEnough 3 = .ok (.bipush 24, 2) := by decide +kernel
theorem d_PS_oneIsEnough_5 : decode b_PS_oneIsEnough 5 = .ok (.if_icmp .ge 39, 3) := by decide +kernel
theorem d_PS_oneIsEnough_8 : decode b_PS_oneIsEnough 8 = .ok (.aload_n 0, 1) := by decide +kernel
theorem d_PS_oneIsEnough_9 : decode b_PS_oneIsEnough 9 = .ok (.getfield 48, 3) := by decide +kernel
theorem d_PS_oneIsEnough_12 : decode b_PS_oneIsEnough 12 = .ok (.iload_n 1, 1) := by decide +kernel
theorem d_PS_oneIsEnough_13 : decode b_PS_oneIsEnough 13 = .ok (.invokestatic 62, 3) := by decide +kernel
theorem d_PS_oneIsEnough_16 : decode b_PS_oneIsEnough 16 = .ok (.ifCond .eq 22, 3) := by decide +kernel
theorem d_PS_oneIsEnough_19 : decode b_PS_oneIsEnough 19 = .ok (.aload_n 0, 1) := by decide +kernel
theorem d_PS_oneIsEnough_20 : decode b_PS_oneIsEnough 20 = .ok (.aload_n 0, 1) := by decide +kernel
theorem d_PS_oneIsEnough_21 : decode b_PS_oneIsEnough 21 = .ok (.getfield 48, 3) := by decide +kernel
theorem d_PS_oneIsEnough_24 : decode b_PS_oneIsEnough 24 = .ok (.iconst 1, 1) := by decide +kernel
theorem d_PS_oneIsEnough_25 : decode b_PS_oneIsEnough 25 = .ok (.iload_n 1, 1) := by decide +kernel
theorem d_PS_oneIsEnough_26 : decode b_PS_oneIsEnough 26 = .ok (.ishl, 1) := by decide +kernel
theorem d_PS_oneIsEnough_27 : decode b_PS_oneIsEnough 27 = .ok (.iconst (-1), 1) := by decide +kernel
theorem d_PS_oneIsEnough_28 : decode b_PS_oneIsEnough 28 = .ok (.ixor, 1) := by decide +kernel
theorem d_PS_oneIsEnough_29 : decode b_PS_oneIsEnough 29 = .ok (.iand, 1) := by decide +kernel
theorem d_PS_oneIsEnough_30 : decode b_PS_oneIsEnough 30 = .ok (.invokevirtual 120, 3) := by decide +kernel
theorem d_PS_oneIsEnough_33 : decode b_PS_oneIsEnough 33 = .ok (.ifCond .eq 5, 3) := by decide +kernel
theorem d_PS_oneIsEnough_36 : decode b_PS_oneIsEnough 36 = .ok (.iconst 1, 1) := by decide +kernel
theorem d_PS_oneIsEnough_37 : decode b_PS_oneIsEnough 37 = .ok (.ireturn, 1) := by decide +kernel
theorem d_PS_oneIsEnough_38 : decode b_PS_oneIsEnough 38 = .ok (.iinc 1 1, 3) := by decide +kernel
theorem d_PS_oneIsEnough_41 : decode b_PS_oneIsEnough 41 = .ok (.goto (-39), 3) := by decide +kernel
theorem d_PS_oneIsEnough_44 : decode b_PS_oneIsEnough 44 = .ok (.iconst 0, 1) := by decide +kernel
theorem d_PS_oneIsEnough_45 : decode b_PS_oneIsEnough 45 = .ok (.ireturn, 1) := by decide +kernel
theorem d_PS_otherEnd_0 : decode b_PS_otherEnd 0 = .ok (.aload_n 0, 1) := by decide +kernel
theorem d_PS_otherEnd_1 : decode b_PS_otherEnd 1 = .ok (.getfield 9, 3) := by decide +kernel
theorem d_PS_otherEnd_4 : decode b_PS_otherEnd 4 = .ok (.iload_n 1, 1) := by decide +kernel
theorem d_PS_otherEnd_5 : decode b_PS_otherEnd 5 = .ok (.iaload, 1) := by decide +kernel
theorem d_PS_otherEnd_6 : decode b_PS_otherEnd 6 = .ok (.iload_n 2, 1) := by decide +kernel
theorem d_PS_otherEnd_7 : decode b_PS_otherEnd 7 = .ok (.if_icmp .ne 12, 3) := by decide +kernel
theorem d_PS_otherEnd_10 : decode b_PS_otherEnd 10 = .ok (.aload_n 0, 1) := by decide +kernel
theorem d_PS_otherEnd_11 : decode b_PS_otherEnd 11 = .ok (.getfield 13, 3) := by decide +kernel
theorem d_PS_otherEnd_14 : decode b_PS_otherEnd 14 = .ok (.iload_n 1, 1) := by decide +kernel
theorem d_PS_otherEnd_15 : decode b_PS_otherEnd 15 = .ok (.iaload, 1) := by decide +kernel
theorem d_PS_otherEnd_16 : decode b_PS_otherEnd 16 = .ok (.goto 9, 3) := by decide +kernel
theorem d_PS_otherEnd_19 : decode b_PS_otherEnd 19 = .ok (.aload_n 0, 1) := by decide +kernel
theorem d_PS_otherEnd_20 : decode b_PS_otherEnd 20 = .ok (.getfield 9, 3) := by decide +kernel
theorem d_PS_otherEnd_23 : decode b_PS_otherEnd 23 = .ok (.iload_n 1, 1) := by decide +kernel
theorem d_PS_otherEnd_24 : decode b_PS_otherEnd 24 = .ok (.iaload, 1) := by decide +kernel
theorem d_PS_otherEnd_25 : decode b_PS_otherEnd 25 = .ok (.ireturn, 1) := by decide +kernel
theorem d_PS_room_31 : decode b_PS_room 31 = .ok (.aload_n 0, 1) := by decide +kernel
theorem d_PS_room_32 : decode b_PS_room 32 = .ok (.getfield 44, 3) := by decide +kernel
theorem d_PS_room_35 : decode b_PS_room 35 = .ok (.iload_n 3, 1) := by decide +kernel
theorem d_PS_room_36 : decode b_PS_room 36 = .ok (.invokestatic 62, 3) := by decide +kernel
theorem d_PS_room_39 : decode b_PS_room 39 = .ok (.ifCond .eq 24, 3) := by decide +kernel
theorem d_PS_room_42 : decode b_PS_room 42 = .ok (.aload_n 0, 1) := by decide +kernel
theorem d_PS_room_43 : decode b_PS_room 43 = .ok (.iload_n 2, 1) := by decide +kernel
theorem d_PS_room_44 : decode b_PS_room 44 = .ok (.iload_n 3, 1) := by decide +kernel
theorem d_PS_room_45 : decode b_PS_room 45 = .ok (.invokevirtual 94, 3) := by decide +kernel
theorem d_PS_room_48 : decode b_PS_room 48 = .ok (.ifCond .ne 15, 3) := by decide +kernel
theorem d_PS_room_51 : decode b_PS_room 51 = .ok (.aload_n 0, 1) := by decide +kernel
theorem d_PS_room_52 : decode b_PS_room 52 = .ok (.iload_n 2, 1) := by decide +kernel
theorem d_PS_room_53 : decode b_PS_room 53 = .ok (.iload_n 3, 1) := by decide +kernel
theorem d_PS_room_54 : decode b_PS_room 54 = .ok (.invokevirtual 146, 3) := by decide +kernel
theorem d_PS_room_57 : decode b_PS_room 57 = .ok (.ifCond .eq 6, 3) := by decide +kernel
theorem d_PS_room_60 : decode b_PS_room 60 = .ok (.iinc 1 1, 3) := by decide +kernel
theorem d_PS_spare_13 : decode b_PS_spare 13 = .ok (.aload_n 0, 1) := by decide +kernel
theorem d_PS_spare_14 : decode b_PS_spare 14 = .ok (.invokevirtual 161, 3) := by decide +kernel
theorem d_PS_spare_17 : decode b_PS_spare 17 = .ok (.ifCond .eq 5, 3) := by decide +kernel
theorem d_PS_spare_20 : decode b_PS_spare 20 = .ok (.iconst 1, 1) := by decide +kernel
theorem d_PS_spare_21 : decode b_PS_spare 21 = .ok (.ireturn, 1) := by decide +kernel
theorem d_PS_spare_22 : decode b_PS_spare 22 = .ok (.aload_n 0, 1) := by decide +kernel
theorem d_PS_spare_23 : decode b_PS_spare 23 = .ok (.invokevirtual 165, 3) := by decide +kernel
theorem d_PS_spare_26 : decode b_PS_spare 26 = .ok (.ifCond .eq 7, 3) := by decide +kernel
theorem d_PS_spare_29 : decode b_PS_spare 29 = .ok (.iconst 2, 1) := by decide +kernel
theorem d_PS_spare_30 : decode b_PS_spare 30 = .ok (.goto 4, 3) := by decide +kernel
theorem d_PS_spare_33 : decode b_PS_spare 33 = .ok (.iconst 3, 1) := by decide +kernel
theorem d_PS_spare_34 : decode b_PS_spare 34 = .ok (.ireturn, 1) := by decide +kernel
theorem d_PS_spin_23 : decode b_PS_spin 23 = .ok (.aload_n 0, 1) := by decide +kernel
theorem d_PS_spin_24 : decode b_PS_spin 24 = .ok (.getfield 19, 3) := by decide +kernel
theorem d_PS_spin_27 : decode b_PS_spin 27 = .ok (.aload_n 0, 1) := by decide +kernel
theorem d_PS_spin_28 : decode b_PS_spin 28 = .ok (.getfield 9, 3) := by decide +kernel
theorem d_PS_spin_31 : decode b_PS_spin 31 = .ok (.iload_n 2, 1) := by decide +kernel
theorem d_PS_spin_32 : decode b_PS_spin 32 = .ok (.iaload, 1) := by decide +kernel
theorem d_PS_spin_33 : decode b_PS_spin 33 = .ok (.aload_n 0, 1) := by decide +kernel
theorem d_PS_spin_34 : decode b_PS_spin 34 = .ok (.getfield 13, 3) := by decide +kernel
theorem d_PS_spin_37 : decode b_PS_spin 37 = .ok (.iload_n 2, 1) := by decide +kernel
theorem d_PS_spin_38 : decode b_PS_spin 38 = .ok (.iaload, 1) := by decide +kernel
theorem d_PS_spin_39 : decode b_PS_spin 39 = .ok (.invokevirtual 153, 3) := by decide +kernel
theorem d_PS_twoAreEnough_0 : decode b_PS_twoAreEnough 0 = .ok (.iconst 0, 1) := by decide +kernel
theorem d_PS_twoAreEnough_1 : decode b_PS_twoAreEnough 1 = .ok (.istore_n 1, 1) := by decide +kernel
theorem d_PS_twoAreEnough_2 : decode b_PS_twoAreEnough 2 = .ok (.iload_n 1, 1) := by decide +kernel
theorem d_PS_twoAreEnough_3 : decode b_PS_twoAreEnough 3 = .ok (.bipush 24, 2) := by decide +kernel
theorem d_PS_twoAreEnough_5 : decode b_PS_twoAreEnough 5 = .ok (.if_icmp .ge 72, 3) := by decide +kernel
theorem d_PS_twoAreEnough_8 : decode b_PS_twoAreEnough 8 = .ok (.iload_n 1, 1) := by decide +kernel
theorem d_PS_twoAreEnough_9 : decode b_PS_twoAreEnough 9 = .ok (.iconst 1, 1) := by decide +kernel
theorem d_PS_twoAreEnough_10 : decode b_PS_twoAreEnough 10 = .ok (.iadd, 1) := by decide +kernel
theorem d_PS_twoAreEnough_11 : decode b_PS_twoAreEnough 11 = .ok (.istore_n 2, 1) := by decide +kernel
theorem d_PS_twoAreEnough_12 : decode b_PS_twoAreEnough 12 = .ok (.iload_n 2, 1) := by decide +kernel
theorem d_PS_twoAreEnough_13 : decode b_PS_twoAreEnough 13 = .ok (.bipush 24, 2) := by decide +kernel
theorem d_PS_twoAreEnough_15 : decode b_PS_twoAreEnough 15 = .ok (.if_icmp .ge 56, 3) := by decide +kernel
theorem d_PS_twoAreEnough_18 : decode b_PS_twoAreEnough 18 = .ok (.aload_n 0, 1) := by decide +kernel
theorem d_PS_twoAreEnough_19 : decode b_PS_twoAreEnough 19 = .ok (.getfield 48, 3) := by decide +kernel
theorem d_PS_twoAreEnough_22 : decode b_PS_twoAreEnough 22 = .ok (.iload_n 1, 1) := by decide +kernel
theorem d_PS_twoAreEnough_23 : decode b_PS_twoAreEnough 23 = .ok (.invokestatic 62, 3) := by decide +kernel
theorem d_PS_twoAreEnough_26 : decode b_PS_twoAreEnough 26 = .ok (.ifCond .eq 39, 3) := by decide +kernel
theorem d_PS_twoAreEnough_29 : decode b_PS_twoAreEnough 29 = .ok (.aload_n 0, 1) := by decide +kernel
theorem d_PS_twoAreEnough_30 : decode b_PS_twoAreEnough 30 = .ok (.getfield 48, 3) := by decide +kernel
theorem d_PS_twoAreEnough_33 : decode b_PS_twoAreEnough 33 = .ok (.iload_n 2, 1) := by decide +kernel
theorem d_PS_twoAreEnough_34 : decode b_PS_twoAreEnough 34 = .ok (.invokestatic 62, 3) := by decide +kernel
theorem d_PS_twoAreEnough_37 : decode b_PS_twoAreEnough 37 = .ok (.ifCond .eq 28, 3) := by decide +kernel
theorem d_PS_twoAreEnough_40 : decode b_PS_twoAreEnough 40 = .ok (.aload_n 0, 1) := by decide +kernel
theorem d_PS_twoAreEnough_41 : decode b_PS_twoAreEnough 41 = .ok (.aload_n 0, 1) := by decide +kernel
theorem d_PS_twoAreEnough_42 : decode b_PS_twoAreEnough 42 = .ok (.getfield 48, 3) := by decide +kernel
theorem d_PS_twoAreEnough_45 : decode b_PS_twoAreEnough 45 = .ok (.iconst 1, 1) := by decide +kernel
theorem d_PS_twoAreEnough_46 : decode b_PS_twoAreEnough 46 = .ok (.iload_n 1, 1) := by decide +kernel
theorem d_PS_twoAreEnough_47 : decode b_PS_twoAreEnough 47 = .ok (.ishl, 1) := by decide +kernel
theorem d_PS_twoAreEnough_48 : decode b_PS_twoAreEnough 48 = .ok (.iconst (-1), 1) := by decide +kernel
theorem d_PS_twoAreEnough_49 : decode b_PS_twoAreEnough 49 = .ok (.ixor, 1) := by decide +kernel
theorem d_PS_twoAreEnough_50 : decode b_PS_twoAreEnough 50 = .ok (.iand, 1) := by decide +kernel
theorem d_PS_twoAreEnough_51 : decode b_PS_twoAreEnough 51 = .ok (.iconst 1, 1) := by decide +kernel
theorem d_PS_twoAreEnough_52 : decode b_PS_twoAreEnough 52 = .ok (.iload_n 2, 1) := by decide +kernel
theorem d_PS_twoAreEnough_53 : decode b_PS_twoAreEnough 53 = .ok (.ishl, 1) := by decide +kernel
theorem d_PS_twoAreEnough_54 : decode b_PS_twoAreEnough 54 = .ok (.iconst (-1), 1) := by decide +kernel
theorem d_PS_twoAreEnough_55 : decode b_PS_twoAreEnough 55 = .ok (.ixor, 1) := by decide +kernel
theorem d_PS_twoAreEnough_56 : decode b_PS_twoAreEnough 56 = .ok (.iand, 1) := by decide +kernel
theorem d_PS_twoAreEnough_57 : decode b_PS_twoAreEnough 57 = .ok (.invokevirtual 120, 3) := by decide +kernel
theorem d_PS_twoAreEnough_60 : decode b_PS_twoAreEnough 60 = .ok (.ifCond .eq 5, 3) := by decide +kernel
theorem d_PS_twoAreEnough_63 : decode b_PS_twoAreEnough 63 = .ok (.iconst 1, 1) := by decide +kernel
theorem d_PS_twoAreEnough_64 : decode b_PS_twoAreEnough 64 = .ok (.ireturn, 1) := by decide +kernel
theorem d_PS_twoAreEnough_65 : decode b_PS_twoAreEnough 65 = .ok (.iinc 2 1, 3) := by decide +kernel
theorem d_PS_twoAreEnough_68 : decode b_PS_twoAreEnough 68 = .ok (.goto (-56), 3) := by decide +kernel
theorem d_PS_twoAreEnough_71 : decode b_PS_twoAreEnough 71 = .ok (.iinc 1 1, 3) := by decide +kernel
theorem d_PS_twoAreEnough_74 : decode b_PS_twoAreEnough 74 = .ok (.goto (-72), 3) := by decide +kernel
theorem d_PS_twoAreEnough_77 : decode b_PS_twoAreEnough 77 = .ok (.iconst 0, 1) := by decide +kernel
theorem d_PS_twoAreEnough_78 : decode b_PS_twoAreEnough 78 = .ok (.ireturn, 1) := by decide +kernel
theorem d_PS_witness_11 : decode b_PS_witness 11 = .ok (.aload_n 0, 1) := by decide +kernel
theorem d_PS_witness_12 : decode b_PS_witness 12 = .ok (.iload_n 1, 1) := by decide +kernel
theorem d_PS_witness_13 : decode b_PS_witness 13 = .ok (.invokevirtual 126, 3) := by decide +kernel
theorem d_PS_witness_16 : decode b_PS_witness 16 = .ok (.invokestatic 71, 3) := by decide +kernel
theorem d_PS_witness_19 : decode b_PS_witness 19 = .ok (.iconst 5, 1) := by decide +kernel
theorem d_PS_witness_20 : decode b_PS_witness 20 = .ok (.if_icmp .ne 7, 3) := by decide +kernel
theorem d_PS_witness_23 : decode b_PS_witness 23 = .ok (.iconst 5, 1) := by decide +kernel
theorem d_PS_witness_24 : decode b_PS_witness 24 = .ok (.goto 5, 3) := by decide +kernel
theorem d_PS_witness_27 : decode b_PS_witness 27 = .ok (.bipush 33, 2) := by decide +kernel
theorem d_PS_witness_29 : decode b_PS_witness 29 = .ok (.ireturn, 1) := by decide +kernel
theorem d_PS_wrong_21 : decode b_PS_wrong 21 = .ok (.aload_n 0, 1) := by decide +kernel
theorem d_PS_wrong_22 : decode b_PS_wrong 22 = .ok (.iload_n 2, 1) := by decide +kernel
theorem d_PS_wrong_23 : decode b_PS_wrong 23 = .ok (.invokevirtual 199, 3) := by decide +kernel
theorem d_PS_wrong_26 : decode b_PS_wrong 26 = .ok (.ifCond .eq 6, 3) := by decide +kernel
theorem d_PS_wrong_29 : decode b_PS_wrong 29 = .ok (.iinc 1 1, 3) := by decide +kernel
theorem d_PS_wrongMeetings_31 : decode b_PS_wrongMeetings 31 = .ok (.aload_n 0, 1) := by decide +kernel
theorem d_PS_wrongMeetings_32 : decode b_PS_wrongMeetings 32 = .ok (.getfield 48, 3) := by decide +kernel
theorem d_PS_wrongMeetings_35 : decode b_PS_wrongMeetings 35 = .ok (.iload_n 3, 1) := by decide +kernel
theorem d_PS_wrongMeetings_36 : decode b_PS_wrongMeetings 36 = .ok (.invokestatic 62, 3) := by decide +kernel
theorem d_PS_wrongMeetings_39 : decode b_PS_wrongMeetings 39 = .ok (.ifCond .eq 15, 3) := by decide +kernel
theorem d_PS_wrongMeetings_42 : decode b_PS_wrongMeetings 42 = .ok (.aload_n 0, 1) := by decide +kernel
theorem d_PS_wrongMeetings_43 : decode b_PS_wrongMeetings 43 = .ok (.iload_n 2, 1) := by decide +kernel
theorem d_PS_wrongMeetings_44 : decode b_PS_wrongMeetings 44 = .ok (.iload_n 3, 1) := by decide +kernel
theorem d_PS_wrongMeetings_45 : decode b_PS_wrongMeetings 45 = .ok (.invokevirtual 196, 3) := by decide +kernel
theorem d_PS_wrongMeetings_48 : decode b_PS_wrongMeetings 48 = .ok (.ifCond .eq 6, 3) := by decide +kernel
theorem d_PS_wrongMeetings_51 : decode b_PS_wrongMeetings 51 = .ok (.iinc 1 1, 3) := by decide +kernel
