theorem d_PS_room_69 : decode b_PS_room 69 = .ok (.iinc 2 1, 3) := by decide +kernel
theorem d_PS_room_72 : decode b_PS_room 72 = .ok (.goto (-68), 3) := by decide +kernel
theorem d_PS_room_75 : decode b_PS_room 75 = .ok (.iload_n 1, 1) := by decide +kernel
theorem d_PS_room_76 : decode b_PS_room 76 = .ok (.ireturn, 1) := by decide +kernel
theorem d_PS_spare_0 : decode b_PS_spare 0 = .ok (.aload_n 0, 1) := by decide +kernel
theorem d_PS_spare_1 : decode b_PS_spare 1 = .ok (.aload_n 0, 1) := by decide +kernel
theorem d_PS_spare_2 : decode b_PS_spare 2 = .ok (.getfield 48, 3) := by decide +kernel
theorem d_PS_spare_5 : decode b_PS_spare 5 = .ok (.invokevirtual 120, 3) := by decide +kernel
theorem d_PS_spare_8 : decode b_PS_spare 8 = .ok (.ifCond .eq 5, 3) := by decide +kernel
theorem d_PS_spare_11 : decode b_PS_spare 11 = .ok (.iconst 0, 1) := by decide +kernel
theorem d_PS_spare_12 : decode b_PS_spare 12 = .ok (.ireturn, 1) := by decide +kernel
theorem d_PS_spare_13 : decode b_PS_spare 13 = .ok (.aload_n 0, 1) := by decide +kernel
theorem d_PS_spare_14 : decode b_PS_spare 14 = .ok (.invokevirtual 161, 3) := by decide +kernel
theorem d_PS_spare_17 : decode b_PS_spare 17 = .ok (.ifCond .eq 5, 3) := by decide +kernel
theorem d_PS_spare_20 : decode b_PS_spare 20 = .ok (.iconst 1, 1) := by decide +kernel
theorem d_PS_spare_21 : decode b_PS_spare 21 = .ok (.ireturn, 1) := by decide +kernel
theorem d_PS_spare_22 : decode b_PS_spare 22 = .ok (.aload_n 0, 1) := by decide +kernel
theorem d_PS_spare_23 : decode b_PS_spare 23 = .ok (.invokevirtual 165, 3) := by decide +kernel
theorem d_PS_spare_26 : decode b_PS_spare 26 = .ok (.ifCond .eq 7, 3) := by decide +kernel
theorem d_PS_spare_29 : decode b_PS_spare 29 = .ok (.iconst 2, 1) := by decide +kernel
theorem d_PS_spare_30 : decode b_PS_spare 30 = .ok (.goto 4, 3) := by decide +kernel
theorem d_PS_spare_33 : decode b_PS_spare 33 = .ok (.iconst 3, 1) := by decide +kernel
theorem d_PS_spare_34 : decode b_PS_spare 34 = .ok (.ireturn, 1) := by decide +kernel
theorem d_PS_spin_0 : decode b_PS_spin 0 = .ok (.aload_n 0, 1) := by decide +kernel
theorem d_PS_spin_1 : decode b_PS_spin 1 = .ok (.getfield 19, 3) := by decide +kernel
theorem d_PS_spin_4 : decode b_PS_spin 4 = .ok (.invokevirtual 211, 3) := by decide +kernel
theorem d_PS_spin_7 : decode b_PS_spin 7 = .ok (.iconst 0, 1) := by decide +kernel
theorem d_PS_spin_8 : decode b_PS_spin 8 = .ok (.istore_n 2, 1) := by decide +kernel
theorem d_PS_spin_9 : decode b_PS_spin 9 = .ok (.iload_n 2, 1) := by decide +kernel
theorem d_PS_spin_10 : decode b_PS_spin 10 = .ok (.bipush 24, 2) := by decide +kernel
theorem d_PS_spin_12 : decode b_PS_spin 12 = .ok (.if_icmp .ge 36, 3) := by decide +kernel
theorem d_PS_spin_15 : decode b_PS_spin 15 = .ok (.iload_n 1, 1) := by decide +kernel
theorem d_PS_spin_16 : decode b_PS_spin 16 = .ok (.iload_n 2, 1) := by decide +kernel
theorem d_PS_spin_17 : decode b_PS_spin 17 = .ok (.invokestatic 62, 3) := by decide +kernel
theorem d_PS_spin_20 : decode b_PS_spin 20 = .ok (.ifCond .eq 22, 3) := by decide +kernel
theorem d_PS_spin_23 : decode b_PS_spin 23 = .ok (.aload_n 0, 1) := by decide +kernel
theorem d_PS_spin_24 : decode b_PS_spin 24 = .ok (.getfield 19, 3) := by decide +kernel
theorem d_PS_spin_27 : decode b_PS_spin 27 = .ok (.aload_n 0, 1) := by decide +kernel
theorem d_PS_spin_28 : decode b_PS_spin 28 = .ok (.getfield 9, 3) := by decide +kernel
theorem d_PS_spin_31 : decode b_PS_spin 31 = .ok (.iload_n 2, 1) := by decide +kernel
theorem d_PS_spin_32 : decode b_PS_spin 32 = .ok (.iaload, 1) := by decide +kernel
theorem d_PS_spin_33 : decode b_PS_spin 33 = .ok (.aload_n 0, 1) := by decide +kernel
theorem d_PS_spin_34 : decode b_PS_spin 34 = .ok (.getfield 13, 3) := by decide +kernel
theorem d_PS_spin_37 : decode b_PS_spin 37 = .ok (.iload_n 2, 1) := by decide +kernel
theorem d_PS_spin_38 : decode b_PS_spin 38 = .ok (.iaload, 1) := by decide +kernel
theorem d_PS_spin_39 : decode b_PS_spin 39 = .ok (.invokevirtual 153, 3) := by decide +kernel
theorem d_PS_spin_42 : decode b_PS_spin 42 = .ok (.iinc 2 1, 3) := by decide +kernel
theorem d_PS_spin_45 : decode b_PS_spin 45 = .ok (.goto (-36), 3) := by decide +kernel
theorem d_PS_spin_48 : decode b_PS_spin 48 = .ok (.return_, 1) := by decide +kernel
theorem d_PS_twoAreEnough_0 : decode b_PS_twoAreEnough 0 = .ok (.iconst 0, 1) := by decide +kernel
theorem d_PS_twoAreEnough_1 : decode b_PS_twoAreEnough 1 = .ok (.istore_n 1, 1) := by decide +kernel
theorem d_PS_twoAreEnough_2 : decode b_PS_twoAreEnough 2 = .ok (.iload_n 1, 1) := by decide +kernel
theorem d_PS_twoAreEnough_3 : decode b_PS_twoAreEnough 3 = .ok (.bipush 24, 2) := by decide +kernel
theorem d_PS_twoAreEnough_5 : decode b_PS_twoAreEnough 5 = .ok (.if_icmp .ge 72, 3) := by decide +kernel
theorem d_PS_twoAreEnough_8 : decode b_PS_twoAreEnough 8 = .ok (.iload_n 1, 1) := by decide +kernel
theorem d_PS_twoAreEnough_9 : decode b_PS_twoAreEnough 9 = .ok (.iconst 1, 1) := by decide +kernel
theorem d_PS_twoAreEnough_10 : decode b_PS_twoAreEnough 10 = .ok (.iadd, 1) := by decide +kernel
theorem d_PS_twoAreEnough_11 : decode b_PS_twoAreEnough 11 = .ok (.istore_n 2, 1) := by decide +kernel
theorem d_PS_twoAreEnough_12 : decode b_PS_twoAreEnough 12 = .ok (.iload_n 2, 1) := by decide +kernel
theorem d_PS_twoAreEnough_13 : decode b_PS_twoAreEnough 13 = .ok (.bipush 24, 2) := by decide +kernel
theorem d_PS_twoAreEnough_15 : decode b_PS_twoAreEnough 15 = .ok (.if_icmp .ge 56, 3) := by decide +kernel
theorem d_PS_twoAreEnough_18 : decode b_PS_twoAreEnough 18 = .ok (.aload_n 0, 1) := by decide +kernel
theorem d_PS_twoAreEnough_19 : decode b_PS_twoAreEnough 19 = .ok (.getfield 48, 3) := by decide +kernel
theorem d_PS_twoAreEnough_22 : decode b_PS_twoAreEnough 22 = .ok (.iload_n 1, 1) := by decide +kernel
theorem d_PS_twoAreEnough_23 : decode b_PS_twoAreEnough 23 = .ok (.invokestatic 62, 3) := by decide +kernel
theorem d_PS_twoAreEnough_26 : decode b_PS_twoAreEnough 26 = .ok (.ifCond .eq 39, 3) := by decide +kernel
theorem d_PS_twoAreEnough_29 : decode b_PS_twoAreEnough 29 = .ok (.aload_n 0, 1) := by decide +kernel
theorem d_PS_twoAreEnough_30 : decode b_PS_twoAreEnough 30 = .ok (.getfield 48, 3) := by decide +kernel
theorem d_PS_twoAreEnough_33 : decode b_PS_twoAreEnough 33 = .ok (.iload_n 2, 1) := by decide +kernel
theorem d_PS_twoAreEnough_34 : decode b_PS_twoAreEnough 34 = .ok (.invokestatic 62, 3) := by decide +kernel
theorem d_PS_twoAreEnough_37 : decode b_PS_twoAreEnough 37 = .ok (.ifCond .eq 28, 3) := by decide +kernel
theorem d_PS_twoAreEnough_40 : decode b_PS_twoAreEnough 40 = .ok (.aload_n 0, 1) := by decide +kernel
theorem d_PS_twoAreEnough_41 : decode b_PS_twoAreEnough 41 = .ok (.aload_n 0, 1) := by decide +kernel
theorem d_PS_twoAreEnough_42 : decode b_PS_twoAreEnough 42 = .ok (.getfield 48, 3) := by decide +kernel
theorem d_PS_twoAreEnough_45 : decode b_PS_twoAreEnough 45 = .ok (.iconst 1, 1) := by decide +kernel
theorem d_PS_twoAreEnough_46 : decode b_PS_twoAreEnough 46 = .ok (.iload_n 1, 1) := by decide +kernel
theorem d_PS_twoAreEnough_47 : decode b_PS_twoAreEnough 47 = .ok (.ishl, 1) := by decide +kernel
theorem d_PS_twoAreEnough_48 : decode b_PS_twoAreEnough 48 = .ok (.iconst (-1), 1) := by decide +kernel
theorem d_PS_twoAreEnough_49 : decode b_PS_twoAreEnough 49 = .ok (.ixor, 1) := by decide +kernel
theorem d_PS_twoAreEnough_50 : decode b_PS_twoAreEnough 50 = .ok (.iand, 1) := by decide +kernel
theorem d_PS_twoAreEnough_51 : decode b_PS_twoAreEnough 51 = .ok (.iconst 1, 1) := by decide +kernel
theorem d_PS_twoAreEnough_52 : decode b_PS_twoAreEnough 52 = .ok (.iload_n 2, 1) := by decide +kernel
theorem d_PS_twoAreEnough_53 : decode b_PS_twoAreEnough 53 = .ok (.ishl, 1) := by decide +kernel
theorem d_PS_twoAreEnough_54 : decode b_PS_twoAreEnough 54 = .ok (.iconst (-1), 1) := by decide +kernel
theorem d_PS_twoAreEnough_55 : decode b_PS_twoAreEnough 55 = .ok (.ixor, 1) := by decide +kernel
theorem d_PS_twoAreEnough_56 : decode b_PS_twoAreEnough 56 = .ok (.iand, 1) := by decide +kernel
theorem d_PS_twoAreEnough_57 : decode b_PS_twoAreEnough 57 = .ok (.invokevirtual 120, 3) := by decide +kernel
theorem d_PS_twoAreEnough_60 : decode b_PS_twoAreEnough 60 = .ok (.ifCond .eq 5, 3) := by decide +kernel
theorem d_PS_twoAreEnough_63 : decode b_PS_twoAreEnough 63 = .ok (.iconst 1, 1) := by decide +kernel
theorem d_PS_twoAreEnough_64 : decode b_PS_twoAreEnough 64 = .ok (.ireturn, 1) := by decide +kernel
theorem d_PS_twoAreEnough_65 : decode b_PS_twoAreEnough 65 = .ok (.iinc 2 1, 3) := by decide +kernel
theorem d_PS_twoAreEnough_68 : decode b_PS_twoAreEnough 68 = .ok (.goto (-56), 3) := by decide +kernel
theorem d_PS_twoAreEnough_71 : decode b_PS_twoAreEnough 71 = .ok (.iinc 1 1, 3) := by decide +kernel
theorem d_PS_twoAreEnough_74 : decode b_PS_twoAreEnough 74 = .ok (.goto (-72), 3) := by decide +kernel
theorem d_PS_twoAreEnough_77 : decode b_PS_twoAreEnough 77 = .ok (.iconst 0, 1) := by decide +kernel
theorem d_PS_twoAreEnough_78 : decode b_PS_twoAreEnough 78 = .ok (.ireturn, 1) := by decide +kernel
theorem d_PS_witness_0 : decode b_PS_witness 0 = .ok (.aload_n 0, 1) := by decide +kernel
theorem d_PS_witness_1 : decode b_PS_witness 1 = .ok (.invokevirtual 123, 3) := by decide +kernel
theorem d_PS_witness_4 : decode b_PS_witness 4 = .ok (.istore_n 1, 1) := by decide +kernel
theorem d_PS_witness_5 : decode b_PS_witness 5 = .ok (.iload_n 1, 1) := by decide +kernel
theorem d_PS_witness_6 : decode b_PS_witness 6 = .ok (.ifCond .ne 5, 3) := by decide +kernel
theorem d_PS_witness_9 : decode b_PS_witness 9 = .ok (.iconst 0, 1) := by decide +kernel
theorem d_PS_witness_10 : decode b_PS_witness 10 = .ok (.ireturn, 1) := by decide +kernel
theorem d_PS_witness_11 : decode b_PS_witness 11 = .ok (.aload_n 0, 1) := by decide +kernel
theorem d_PS_witness_12 : decode b_PS_witness 12 = .ok (.iload_n 1, 1) := by decide +kernel
theorem d_PS_witness_13 : decode b_PS_witness 13 = .ok (.invokevirtual 126, 3) := by decide +kernel
theorem d_PS_witness_16 : decode b_PS_witness 16 = .ok (.invokestatic 71, 3) := by decide +kernel
theorem d_PS_witness_19 : decode b_PS_witness 19 = .ok (.iconst 5, 1) := by decide +kernel
theorem d_PS_witness_20 : decode b_PS_witness 20 = .ok (.if_icmp .ne 7, 3) := by decide +kernel
theorem d_PS_witness_23 : decode b_PS_witness 23 = .ok (.iconst 5, 1) := by decide +kernel
theorem d_PS_witness_24 : decode b_PS_witness 24 = .ok (.goto 5, 3) := by decide +kernel
theorem d_PS_witness_27 : decode b_PS_witness 27 = .ok (.bipush 33, 2) := by decide +kernel
theorem d_PS_witness_29 : decode b_PS_witness 29 = .ok (.ireturn, 1) := by decide +kernel
theorem d_PS_wrong_0 : decode b_PS_wrong 0 = .ok (.iconst 0, 1) := by decide +kernel
theorem d_PS_wrong_1 : decode b_PS_wrong 1 = .ok (.istore_n 1, 1) := by decide +kernel
theorem d_PS_wrong_2 : decode b_PS_wrong 2 = .ok (.iconst 0, 1) := by decide +kernel
theorem d_PS_wrong_3 : decode b_PS_wrong 3 = .ok (.istore_n 2, 1) := by decide +kernel
theorem d_PS_wrong_4 : decode b_PS_wrong 4 = .ok (.iload_n 2, 1) := by decide +kernel
theorem d_PS_wrong_5 : decode b_PS_wrong 5 = .ok (.bipush 10, 2) := by decide +kernel
theorem d_PS_wrong_7 : decode b_PS_wrong 7 = .ok (.if_icmp .ge 31, 3) := by decide +kernel
theorem d_PS_wrong_10 : decode b_PS_wrong 10 = .ok (.aload_n 0, 1) := by decide +kernel
theorem d_PS_wrong_11 : decode b_PS_wrong 11 = .ok (.getfield 44, 3) := by decide +kernel
theorem d_PS_wrong_14 : decode b_PS_wrong 14 = .ok (.iload_n 2, 1) := by decide +kernel
theorem d_PS_wrong_15 : decode b_PS_wrong 15 = .ok (.invokestatic 62, 3) := by decide +kernel
theorem d_PS_wrong_18 : decode b_PS_wrong 18 = .ok (.ifCond .eq 14, 3) := by decide +kernel
theorem d_PS_wrong_21 : decode b_PS_wrong 21 = .ok (.aload_n 0, 1) := by decide +kernel
theorem d_PS_wrong_22 : decode b_PS_wrong 22 = .ok (.iload_n 2, 1) := by decide +kernel
theorem d_PS_wrong_23 : decode b_PS_wrong 23 = .ok (.invokevirtual 199, 3) := by decide +kernel
theorem d_PS_wrong_26 : decode b_PS_wrong 26 = .ok (.ifCond .eq 6, 3) := by decide +kernel
theorem d_PS_wrong_29 : decode b_PS_wrong 29 = .ok (.iinc 1 1, 3) := by decide +kernel
theorem d_PS_wrong_32 : decode b_PS_wrong 32 = .ok (.iinc 2 1, 3) := by decide +kernel
theorem d_PS_wrong_35 : decode b_PS_wrong 35 = .ok (.goto (-31), 3) := by decide +kernel
theorem d_PS_wrong_38 : decode b_PS_wrong 38 = .ok (.iload_n 1, 1) := by decide +kernel
theorem d_PS_wrong_39 : decode b_PS_wrong 39 = .ok (.ireturn, 1) := by decide +kernel
theorem d_PS_wrongMeetings_0 : decode b_PS_wrongMeetings 0 = .ok (.iconst 0, 1) := by decide +kernel
theorem d_PS_wrongMeetings_1 : decode b_PS_wrongMeetings 1 = .ok (.istore_n 1, 1) := by decide +kernel
theorem d_PS_wrongMeetings_2 : decode b_PS_wrongMeetings 2 = .ok (.iconst 0, 1) := by decide +kernel
theorem d_PS_wrongMeetings_3 : decode b_PS_wrongMeetings 3 = .ok (.istore_n 2, 1) := by decide +kernel
theorem d_PS_wrongMeetings_4 : decode b_PS_wrongMeetings 4 = .ok (.iload_n 2, 1) := by decide +kernel
theorem d_PS_wrongMeetings_5 : decode b_PS_wrongMeetings 5 = .ok (.bipush 24, 2) := by decide +kernel
theorem d_PS_wrongMeetings_7 : decode b_PS_wrongMeetings 7 = .ok (.if_icmp .ge 59, 3) := by decide +kernel
theorem d_PS_wrongMeetings_10 : decode b_PS_wrongMeetings 10 = .ok (.iload_n 2, 1) := by decide +kernel
theorem d_PS_wrongMeetings_11 : decode b_PS_wrongMeetings 11 = .ok (.iconst 1, 1) := by decide +kernel
theorem d_PS_wrongMeetings_12 : decode b_PS_wrongMeetings 12 = .ok (.iadd, 1) := by decide +kernel
theorem d_PS_wrongMeetings_13 : decode b_PS_wrongMeetings 13 = .ok (.istore_n 3, 1) := by decide +kernel
theorem d_PS_wrongMeetings_14 : decode b_PS_wrongMeetings 14 = .ok (.iload_n 3, 1) := by decide +kernel
theorem d_PS_wrongMeetings_15 : decode b_PS_wrongMeetings 15 = .ok (.bipush 24, 2) := by decide +kernel
theorem d_PS_wrongMeetings_17 : decode b_PS_wrongMeetings 17 = .ok (.if_icmp .ge 43, 3) := by decide +kernel
theorem d_PS_wrongMeetings_20 : decode b_PS_wrongMeetings 20 = .ok (.aload_n 0, 1) := by decide +kernel
theorem d_PS_wrongMeetings_21 : decode b_PS_wrongMeetings 21 = .ok (.getfield 48, 3) := by decide +kernel
theorem d_PS_wrongMeetings_24 : decode b_PS_wrongMeetings 24 = .ok (.iload_n 2, 1) := by decide +kernel
theorem d_PS_wrongMeetings_25 : decode b_PS_wrongMeetings 25 = .ok (.invokestatic 62, 3) := by decide +kernel
theorem d_PS_wrongMeetings_28 : decode b_PS_wrongMeetings 28 = .ok (.ifCond .eq 26, 3) := by decide +kernel
theorem d_PS_wrongMeetings_31 : decode b_PS_wrongMeetings 31 = .ok (.aload_n 0, 1) := by decide +kernel
theorem d_PS_wrongMeetings_32 : decode b_PS_wrongMeetings 32 = .ok (.getfield 48, 3) := by decide +kernel
theorem d_PS_wrongMeetings_35 : decode b_PS_wrongMeetings 35 = .ok (.iload_n 3, 1) := by decide +kernel
theorem d_PS_wrongMeetings_36 : decode b_PS_wrongMeetings 36 = .ok (.invokestatic 62, 3) := by decide +kernel
theorem d_PS_wrongMeetings_39 : decode b_PS_wrongMeetings 39 = .ok (.ifCond .eq 15, 3) := by decide +kernel
theorem d_PS_wrongMeetings_42 : decode b_PS_wrongMeetings 42 = .ok (.aload_n 0, 1) := by decide +kernel
theorem d_PS_wrongMeetings_43 : decode b_PS_wrongMeetings 43 = .ok (.iload_n 2, 1) := by decide +kernel
theorem d_PS_wrongMeetings_44 : decode b_PS_wrongMeetings 44 = .ok (.iload_n 3, 1) := by decide +kernel
theorem d_PS_wrongMeetings_45 : decode b_PS_wrongMeetings 45 = .ok (.invokevirtual 196, 3) := by decide +kernel
theorem d_PS_wrongMeetings_48 : decode b_PS_wrongMeetings 48 = .ok (.ifCond .eq 6, 3) := by decide +kernel
theorem d_PS_wrongMeetings_51 : decode b_PS_wrongMeetings 51 = .ok (.iinc 1 1, 3) := by decide +kernel
theorem d_PS_wrongMeetings_54 : decode b_PS_wrongMeetings 54 = .ok (.iinc 3 1, 3) := by decide +kernel
theorem d_PS_wrongMeetings_57 : decode b_PS_wrongMeetings 57 = .ok (.goto (-43), 3) := by decide +kernel
theorem d_PS_wrongMeetings_60 : decode b_PS_wrongMeetings 60 = .ok (.iinc 2 1, 3) := by decide +kernel
theorem d_PS_wrongMeetings_63 : decode b_PS_wrongMeetings 63 = .ok (.goto (-59), 3) := by decide +kernel
theorem d_PS_wrongMeetings_66 : decode b_PS_wrongMeetings 66 = .ok (.iload_n 1, 1) := by decide +kernel
theorem d_PS_wrongMeetings_67 : decode b_PS_wrongMeetings 67 = .ok (.ireturn, 1) := by decide +kernel
