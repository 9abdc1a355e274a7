theorem d_Mod_end_38 : decode b_Mod_end 38 = .ok (.ifCond .ne 12, 3) := by decide +kernel
theorem d_Mod_end_41 : decode b_Mod_end 41 = .ok (.aload_n 0, 1) := by decide +kernel
theorem d_Mod_end_42 : decode b_Mod_end 42 = .ok (.getfield 13, 3) := by decide +kernel
theorem d_Mod_end_45 : decode b_Mod_end 45 = .ok (.iload_n 1, 1) := by decide +kernel
theorem d_Mod_end_46 : decode b_Mod_end 46 = .ok (.iaload, 1) := by decide +kernel
theorem d_Mod_end_47 : decode b_Mod_end 47 = .ok (.goto 9, 3) := by decide +kernel
theorem d_Mod_end_50 : decode b_Mod_end 50 = .ok (.aload_n 0, 1) := by decide +kernel
theorem d_Mod_end_51 : decode b_Mod_end 51 = .ok (.getfield 17, 3) := by decide +kernel
theorem d_Mod_end_54 : decode b_Mod_end 54 = .ok (.iload_n 1, 1) := by decide +kernel
theorem d_Mod_end_55 : decode b_Mod_end 55 = .ok (.iaload, 1) := by decide +kernel
theorem d_Mod_end_56 : decode b_Mod_end 56 = .ok (.ireturn, 1) := by decide +kernel
theorem d_Mod_faces_12 : decode b_Mod_faces 12 = .ok (.iconst 1, 1) := by decide +kernel
theorem d_Mod_faces_13 : decode b_Mod_faces 13 = .ok (.goto 4, 3) := by decide +kernel
theorem d_Mod_faces_25 : decode b_Mod_faces 25 = .ok (.iconst 0, 1) := by decide +kernel
theorem d_Mod_faces_26 : decode b_Mod_faces 26 = .ok (.ireturn, 1) := by decide +kernel
theorem d_Mod_firstFree_17 : decode b_Mod_firstFree 17 = .ok (.iinc 1 1, 3) := by decide +kernel
theorem d_Mod_firstFree_20 : decode b_Mod_firstFree 20 = .ok (.goto (-18), 3) := by decide +kernel
theorem d_Mod_fits_0 : decode b_Mod_fits 0 = .ok (.iconst 1, 1) := by decide +kernel
theorem d_Mod_fits_1 : decode b_Mod_fits 1 = .ok (.istore_n 2, 1) := by decide +kernel
theorem d_Mod_fits_2 : decode b_Mod_fits 2 = .ok (.iconst 0, 1) := by decide +kernel
theorem d_Mod_fits_3 : decode b_Mod_fits 3 = .ok (.istore_n 3, 1) := by decide +kernel
theorem d_Mod_fits_4 : decode b_Mod_fits 4 = .ok (.iload_n 3, 1) := by decide +kernel
theorem d_Mod_fits_5 : decode b_Mod_fits 5 = .ok (.bipush 24, 2) := by decide +kernel
theorem d_Mod_fits_7 : decode b_Mod_fits 7 = .ok (.if_icmp .ge 70, 3) := by decide +kernel
theorem d_Mod_fits_10 : decode b_Mod_fits 10 = .ok (.aload_n 0, 1) := by decide +kernel
theorem d_Mod_fits_11 : decode b_Mod_fits 11 = .ok (.getfield 13, 3) := by decide +kernel
theorem d_Mod_fits_14 : decode b_Mod_fits 14 = .ok (.iload_n 3, 1) := by decide +kernel
theorem d_Mod_fits_15 : decode b_Mod_fits 15 = .ok (.iaload, 1) := by decide +kernel
theorem d_Mod_fits_16 : decode b_Mod_fits 16 = .ok (.ifCond .lt 17, 3) := by decide +kernel
theorem d_Mod_fits_19 : decode b_Mod_fits 19 = .ok (.aload_n 0, 1) := by decide +kernel
theorem d_Mod_fits_20 : decode b_Mod_fits 20 = .ok (.getfield 17, 3) := by decide +kernel
theorem d_Mod_fits_23 : decode b_Mod_fits 23 = .ok (.iload_n 3, 1) := by decide +kernel
theorem d_Mod_fits_24 : decode b_Mod_fits 24 = .ok (.iaload, 1) := by decide +kernel
theorem d_Mod_fits_25 : decode b_Mod_fits 25 = .ok (.iload_n 1, 1) := by decide +kernel
theorem d_Mod_fits_26 : decode b_Mod_fits 26 = .ok (.if_icmp .ne 7, 3) := by decide +kernel
theorem d_Mod_fits_29 : decode b_Mod_fits 29 = .ok (.iconst 1, 1) := by decide +kernel
theorem d_Mod_fits_30 : decode b_Mod_fits 30 = .ok (.goto 4, 3) := by decide +kernel
theorem d_Mod_fits_33 : decode b_Mod_fits 33 = .ok (.iconst 0, 1) := by decide +kernel
theorem d_Mod_fits_34 : decode b_Mod_fits 34 = .ok (.istore 4, 2) := by decide +kernel
theorem d_Mod_fits_36 : decode b_Mod_fits 36 = .ok (.iload_n 2, 1) := by decide +kernel
theorem d_Mod_fits_37 : decode b_Mod_fits 37 = .ok (.ifCond .eq 32, 3) := by decide +kernel
theorem d_Mod_fits_40 : decode b_Mod_fits 40 = .ok (.iload 4, 2) := by decide +kernel
theorem d_Mod_fits_42 : decode b_Mod_fits 42 = .ok (.ifCond .eq 23, 3) := by decide +kernel
theorem d_Mod_fits_45 : decode b_Mod_fits 45 = .ok (.aload_n 0, 1) := by decide +kernel
theorem d_Mod_fits_46 : decode b_Mod_fits 46 = .ok (.getfield 62, 3) := by decide +kernel
theorem d_Mod_fits_49 : decode b_Mod_fits 49 = .ok (.aload_n 0, 1) := by decide +kernel
theorem d_Mod_fits_50 : decode b_Mod_fits 50 = .ok (.getfield 13, 3) := by decide +kernel
theorem d_Mod_fits_53 : decode b_Mod_fits 53 = .ok (.iload_n 3, 1) := by decide +kernel
theorem d_Mod_fits_54 : decode b_Mod_fits 54 = .ok (.iaload, 1) := by decide +kernel
theorem d_Mod_fits_55 : decode b_Mod_fits 55 = .ok (.iaload, 1) := by decide +kernel
theorem d_Mod_fits_56 : decode b_Mod_fits 56 = .ok (.aload_n 0, 1) := by decide +kernel
theorem d_Mod_fits_57 : decode b_Mod_fits 57 = .ok (.getfield 62, 3) := by decide +kernel
theorem d_Mod_fits_60 : decode b_Mod_fits 60 = .ok (.iload_n 1, 1) := by decide +kernel
theorem d_Mod_fits_61 : decode b_Mod_fits 61 = .ok (.iaload, 1) := by decide +kernel
theorem d_Mod_fits_62 : decode b_Mod_fits 62 = .ok (.if_icmp .eq 7, 3) := by decide +kernel
theorem d_Mod_fits_65 : decode b_Mod_fits 65 = .ok (.iconst 1, 1) := by decide +kernel
theorem d_Mod_fits_66 : decode b_Mod_fits 66 = .ok (.goto 4, 3) := by decide +kernel
theorem d_Mod_fits_69 : decode b_Mod_fits 69 = .ok (.iconst 0, 1) := by decide +kernel
theorem d_Mod_fits_70 : decode b_Mod_fits 70 = .ok (.istore_n 2, 1) := by decide +kernel
theorem d_Mod_fits_71 : decode b_Mod_fits 71 = .ok (.iinc 3 1, 3) := by decide +kernel
theorem d_Mod_fits_74 : decode b_Mod_fits 74 = .ok (.goto (-70), 3) := by decide +kernel
theorem d_Mod_fits_77 : decode b_Mod_fits 77 = .ok (.iload_n 2, 1) := by decide +kernel
theorem d_Mod_fits_78 : decode b_Mod_fits 78 = .ok (.ireturn, 1) := by decide +kernel
theorem d_Mod_flat_23 : decode b_Mod_flat 23 = .ok (.iconst 0, 1) := by decide +kernel
theorem d_Mod_goes_0 : decode b_Mod_goes 0 = .ok (.aload_n 0, 1) := by decide +kernel
theorem d_Mod_goes_1 : decode b_Mod_goes 1 = .ok (.iload_n 1, 1) := by decide +kernel
theorem d_Mod_goes_2 : decode b_Mod_goes 2 = .ok (.invokevirtual 124, 3) := by decide +kernel
theorem d_Mod_goes_5 : decode b_Mod_goes 5 = .ok (.istore 4, 2) := by decide +kernel
theorem d_Mod_goes_7 : decode b_Mod_goes 7 = .ok (.aload_n 0, 1) := by decide +kernel
theorem d_Mod_goes_8 : decode b_Mod_goes 8 = .ok (.iload_n 2, 1) := by decide +kernel
theorem d_Mod_goes_9 : decode b_Mod_goes 9 = .ok (.invokevirtual 124, 3) := by decide +kernel
theorem d_Mod_goes_12 : decode b_Mod_goes 12 = .ok (.istore 5, 2) := by decide +kernel
theorem d_Mod_goes_14 : decode b_Mod_goes 14 = .ok (.aload_n 0, 1) := by decide +kernel
theorem d_Mod_goes_15 : decode b_Mod_goes 15 = .ok (.iload_n 1, 1) := by decide +kernel
theorem d_Mod_goes_16 : decode b_Mod_goes 16 = .ok (.invokevirtual 128, 3) := by decide +kernel
theorem d_Mod_goes_19 : decode b_Mod_goes 19 = .ok (.aload_n 0, 1) := by decide +kernel
theorem d_Mod_goes_20 : decode b_Mod_goes 20 = .ok (.iload_n 2, 1) := by decide +kernel
theorem d_Mod_goes_21 : decode b_Mod_goes 21 = .ok (.invokevirtual 128, 3) := by decide +kernel
theorem d_Mod_goes_24 : decode b_Mod_goes 24 = .ok (.ixor, 1) := by decide +kernel
theorem d_Mod_goes_25 : decode b_Mod_goes 25 = .ok (.istore 6, 2) := by decide +kernel
theorem d_Mod_goes_27 : decode b_Mod_goes 27 = .ok (.iload 4, 2) := by decide +kernel
theorem d_Mod_goes_29 : decode b_Mod_goes 29 = .ok (.iload 5, 2) := by decide +kernel
theorem d_Mod_goes_31 : decode b_Mod_goes 31 = .ok (.if_icmp .ne 15, 3) := by decide +kernel
theorem d_Mod_goes_34 : decode b_Mod_goes 34 = .ok (.iload 6, 2) := by decide +kernel
theorem d_Mod_goes_36 : decode b_Mod_goes 36 = .ok (.iload_n 3, 1) := by decide +kernel
theorem d_Mod_goes_37 : decode b_Mod_goes 37 = .ok (.if_icmp .ne 7, 3) := by decide +kernel
theorem d_Mod_goes_40 : decode b_Mod_goes 40 = .ok (.iconst 1, 1) := by decide +kernel
theorem d_Mod_goes_41 : decode b_Mod_goes 41 = .ok (.goto 4, 3) := by decide +kernel
theorem d_Mod_goes_44 : decode b_Mod_goes 44 = .ok (.iconst 0, 1) := by decide +kernel
theorem d_Mod_goes_45 : decode b_Mod_goes 45 = .ok (.ireturn, 1) := by decide +kernel
theorem d_Mod_goes_46 : decode b_Mod_goes 46 = .ok (.aload_n 0, 1) := by decide +kernel
theorem d_Mod_goes_47 : decode b_Mod_goes 47 = .ok (.getfield 53, 3) := by decide +kernel
theorem d_Mod_goes_50 : decode b_Mod_goes 50 = .ok (.iload 4, 2) := by decide +kernel
theorem d_Mod_goes_52 : decode b_Mod_goes 52 = .ok (.iload 5, 2) := by decide +kernel
theorem d_Mod_goes_54 : decode b_Mod_goes 54 = .ok (.iastore, 1) := by decide +kernel
theorem d_Mod_goes_55 : decode b_Mod_goes 55 = .ok (.aload_n 0, 1) := by decide +kernel
theorem d_Mod_goes_56 : decode b_Mod_goes 56 = .ok (.getfield 56, 3) := by decide +kernel
theorem d_Mod_goes_59 : decode b_Mod_goes 59 = .ok (.iload 4, 2) := by decide +kernel
theorem d_Mod_goes_61 : decode b_Mod_goes 61 = .ok (.iload 6, 2) := by decide +kernel
theorem d_Mod_goes_63 : decode b_Mod_goes 63 = .ok (.iload_n 3, 1) := by decide +kernel
theorem d_Mod_goes_64 : decode b_Mod_goes 64 = .ok (.ixor, 1) := by decide +kernel
theorem d_Mod_goes_65 : decode b_Mod_goes 65 = .ok (.iastore, 1) := by decide +kernel
theorem d_Mod_goes_66 : decode b_Mod_goes 66 = .ok (.iconst 1, 1) := by decide +kernel
theorem d_Mod_goes_67 : decode b_Mod_goes 67 = .ok (.ireturn, 1) := by decide +kernel
theorem d_Mod_hinge_13 : decode b_Mod_hinge 13 = .ok (.iconst 0, 1) := by decide +kernel
theorem d_Mod_hinge_22 : decode b_Mod_hinge 22 = .ok (.aload_n 0, 1) := by decide +kernel
theorem d_Mod_hinge_23 : decode b_Mod_hinge 23 = .ok (.iload_n 1, 1) := by decide +kernel
theorem d_Mod_hinge_24 : decode b_Mod_hinge 24 = .ok (.iconst (-1), 1) := by decide +kernel
theorem d_Mod_hinge_25 : decode b_Mod_hinge 25 = .ok (.invokevirtual 170, 3) := by decide +kernel
theorem d_Mod_hinge_28 : decode b_Mod_hinge 28 = .ok (.aload_n 0, 1) := by decide +kernel
theorem d_Mod_hinge_29 : decode b_Mod_hinge 29 = .ok (.iconst (-1), 1) := by decide +kernel
theorem d_Mod_hinge_30 : decode b_Mod_hinge 30 = .ok (.iconst (-1), 1) := by decide +kernel
theorem d_Mod_hinge_31 : decode b_Mod_hinge 31 = .ok (.invokevirtual 170, 3) := by decide +kernel
theorem d_Mod_hinge_34 : decode b_Mod_hinge 34 = .ok (.if_icmp .le 7, 3) := by decide +kernel
theorem d_Mod_hinge_37 : decode b_Mod_hinge 37 = .ok (.iconst 1, 1) := by decide +kernel
theorem d_Mod_hinge_38 : decode b_Mod_hinge 38 = .ok (.goto 4, 3) := by decide +kernel
theorem d_Mod_isBelow_0 : decode b_Mod_isBelow 0 = .ok (.iload_n 1, 1) := by decide +kernel
theorem d_Mod_isBelow_1 : decode b_Mod_isBelow 1 = .ok (.istore_n 3, 1) := by decide +kernel
theorem d_Mod_isBelow_2 : decode b_Mod_isBelow 2 = .ok (.iload_n 3, 1) := by decide +kernel
theorem d_Mod_isBelow_3 : decode b_Mod_isBelow 3 = .ok (.ifCond .lt 28, 3) := by decide +kernel
theorem d_Mod_isBelow_6 : decode b_Mod_isBelow 6 = .ok (.aload_n 0, 1) := by decide +kernel
theorem d_Mod_isBelow_7 : decode b_Mod_isBelow 7 = .ok (.getfield 41, 3) := by decide +kernel
theorem d_Mod_isBelow_10 : decode b_Mod_isBelow 10 = .ok (.iload_n 3, 1) := by decide +kernel
theorem d_Mod_isBelow_11 : decode b_Mod_isBelow 11 = .ok (.iaload, 1) := by decide +kernel
theorem d_Mod_isBelow_12 : decode b_Mod_isBelow 12 = .ok (.aload_n 0, 1) := by decide +kernel
theorem d_Mod_isBelow_13 : decode b_Mod_isBelow 13 = .ok (.getfield 41, 3) := by decide +kernel
theorem d_Mod_isBelow_16 : decode b_Mod_isBelow 16 = .ok (.iload_n 2, 1) := by decide +kernel
theorem d_Mod_isBelow_17 : decode b_Mod_isBelow 17 = .ok (.iaload, 1) := by decide +kernel
theorem d_Mod_isBelow_18 : decode b_Mod_isBelow 18 = .ok (.if_icmp .le 13, 3) := by decide +kernel
theorem d_Mod_isBelow_21 : decode b_Mod_isBelow 21 = .ok (.aload_n 0, 1) := by decide +kernel
theorem d_Mod_isBelow_22 : decode b_Mod_isBelow 22 = .ok (.getfield 44, 3) := by decide +kernel
theorem d_Mod_isBelow_25 : decode b_Mod_isBelow 25 = .ok (.iload_n 3, 1) := by decide +kernel
theorem d_Mod_isBelow_26 : decode b_Mod_isBelow 26 = .ok (.iaload, 1) := by decide +kernel
theorem d_Mod_isBelow_27 : decode b_Mod_isBelow 27 = .ok (.istore_n 3, 1) := by decide +kernel
theorem d_Mod_isBelow_28 : decode b_Mod_isBelow 28 = .ok (.goto (-26), 3) := by decide +kernel
theorem d_Mod_isBelow_31 : decode b_Mod_isBelow 31 = .ok (.iload_n 3, 1) := by decide +kernel
theorem d_Mod_isBelow_32 : decode b_Mod_isBelow 32 = .ok (.iload_n 2, 1) := by decide +kernel
theorem d_Mod_isBelow_33 : decode b_Mod_isBelow 33 = .ok (.if_icmp .ne 7, 3) := by decide +kernel
theorem d_Mod_isBelow_36 : decode b_Mod_isBelow 36 = .ok (.iconst 1, 1) := by decide +kernel
theorem d_Mod_isBelow_37 : decode b_Mod_isBelow 37 = .ok (.goto 4, 3) := by decide +kernel
theorem d_Mod_isBelow_40 : decode b_Mod_isBelow 40 = .ok (.iconst 0, 1) := by decide +kernel
theorem d_Mod_isBelow_41 : decode b_Mod_isBelow 41 = .ok (.ireturn, 1) := by decide +kernel
theorem d_Mod_isFlat_16 : decode b_Mod_isFlat 16 = .ok (.iload_n 1, 1) := by decide +kernel
theorem d_Mod_isFlat_17 : decode b_Mod_isFlat 17 = .ok (.ifCond .eq 61, 3) := by decide +kernel
theorem d_Mod_isFlat_20 : decode b_Mod_isFlat 20 = .ok (.iload_n 2, 1) := by decide +kernel
theorem d_Mod_isFlat_21 : decode b_Mod_isFlat 21 = .ok (.iconst 1, 1) := by decide +kernel
theorem d_Mod_isFlat_22 : decode b_Mod_isFlat 22 = .ok (.iadd, 1) := by decide +kernel
theorem d_Mod_isFlat_23 : decode b_Mod_isFlat 23 = .ok (.istore_n 3, 1) := by decide +kernel
theorem d_Mod_isFlat_24 : decode b_Mod_isFlat 24 = .ok (.iload_n 3, 1) := by decide +kernel
theorem d_Mod_isFlat_25 : decode b_Mod_isFlat 25 = .ok (.aload_n 0, 1) := by decide +kernel
theorem d_Mod_isFlat_26 : decode b_Mod_isFlat 26 = .ok (.getfield 106, 3) := by decide +kernel
theorem d_Mod_isFlat_29 : decode b_Mod_isFlat 29 = .ok (.if_icmp .ge 43, 3) := by decide +kernel
theorem d_Mod_isFlat_32 : decode b_Mod_isFlat 32 = .ok (.iload_n 1, 1) := by decide +kernel
theorem d_Mod_isFlat_33 : decode b_Mod_isFlat 33 = .ok (.ifCond .eq 39, 3) := by decide +kernel
theorem d_Mod_isFlat_36 : decode b_Mod_isFlat 36 = .ok (.aload_n 0, 1) := by decide +kernel
theorem d_Mod_isFlat_37 : decode b_Mod_isFlat 37 = .ok (.getfield 32, 3) := by decide +kernel
theorem d_Mod_isFlat_40 : decode b_Mod_isFlat 40 = .ok (.iload_n 2, 1) := by decide +kernel
theorem d_Mod_isFlat_41 : decode b_Mod_isFlat 41 = .ok (.iaload, 1) := by decide +kernel
theorem d_Mod_isFlat_42 : decode b_Mod_isFlat 42 = .ok (.aload_n 0, 1) := by decide +kernel
theorem d_Mod_isFlat_43 : decode b_Mod_isFlat 43 = .ok (.getfield 32, 3) := by decide +kernel
theorem d_Mod_isFlat_46 : decode b_Mod_isFlat 46 = .ok (.iload_n 3, 1) := by decide +kernel
theorem d_Mod_isFlat_47 : decode b_Mod_isFlat 47 = .ok (.iaload, 1) := by decide +kernel
theorem d_Mod_isFlat_48 : decode b_Mod_isFlat 48 = .ok (.if_icmp .ne 12, 3) := by decide +kernel
theorem d_Mod_isFlat_51 : decode b_Mod_isFlat 51 = .ok (.aload_n 0, 1) := by decide +kernel
theorem d_Mod_isFlat_52 : decode b_Mod_isFlat 52 = .ok (.iload_n 2, 1) := by decide +kernel
theorem d_Mod_isFlat_53 : decode b_Mod_isFlat 53 = .ok (.iload_n 3, 1) := by decide +kernel
theorem d_Mod_isFlat_54 : decode b_Mod_isFlat 54 = .ok (.invokevirtual 141, 3) := by decide +kernel
theorem d_Mod_isFlat_57 : decode b_Mod_isFlat 57 = .ok (.ifCond .eq 7, 3) := by decide +kernel
theorem d_Mod_isFlat_60 : decode b_Mod_isFlat 60 = .ok (.iconst 1, 1) := by decide +kernel
theorem d_Mod_isFlat_61 : decode b_Mod_isFlat 61 = .ok (.goto 4, 3) := by decide +kernel
theorem d_Mod_isFlat_64 : decode b_Mod_isFlat 64 = .ok (.iconst 0, 1) := by decide +kernel
theorem d_Mod_isFlat_65 : decode b_Mod_isFlat 65 = .ok (.istore_n 1, 1) := by decide +kernel
theorem d_Mod_isFlat_66 : decode b_Mod_isFlat 66 = .ok (.iinc 3 1, 3) := by decide +kernel
theorem d_Mod_isFlat_69 : decode b_Mod_isFlat 69 = .ok (.goto (-45), 3) := by decide +kernel
theorem d_Mod_isFlat_72 : decode b_Mod_isFlat 72 = .ok (.iinc 2 1, 3) := by decide +kernel
theorem d_Mod_isFlat_75 : decode b_Mod_isFlat 75 = .ok (.goto (-67), 3) := by decide +kernel
theorem d_Mod_isLine_19 : decode b_Mod_isLine 19 = .ok (.iconst 1, 1) := by decide +kernel
theorem d_Mod_isLine_20 : decode b_Mod_isLine 20 = .ok (.goto 4, 3) := by decide +kernel
theorem d_Mod_isOn_0 : decode b_Mod_isOn 0 = .ok (.aload_n 0, 1) := by decide +kernel
theorem d_Mod_isOn_1 : decode b_Mod_isOn 1 = .ok (.getfield 20, 3) := by decide +kernel
theorem d_Mod_isOn_4 : decode b_Mod_isOn 4 = .ok (.iload_n 3, 1) := by decide +kernel
theorem d_Mod_isOn_5 : decode b_Mod_isOn 5 = .ok (.iaload, 1) := by decide +kernel
theorem d_Mod_isOn_6 : decode b_Mod_isOn 6 = .ok (.aload_n 0, 1) := by decide +kernel
theorem d_Mod_isOn_7 : decode b_Mod_isOn 7 = .ok (.getfield 20, 3) := by decide +kernel
theorem d_Mod_isOn_10 : decode b_Mod_isOn 10 = .ok (.iload_n 1, 1) := by decide +kernel
theorem d_Mod_isOn_11 : decode b_Mod_isOn 11 = .ok (.iaload, 1) := by decide +kernel
theorem d_Mod_isOn_12 : decode b_Mod_isOn 12 = .ok (.aload_n 0, 1) := by decide +kernel
theorem d_Mod_isOn_13 : decode b_Mod_isOn 13 = .ok (.getfield 20, 3) := by decide +kernel
theorem d_Mod_isOn_16 : decode b_Mod_isOn 16 = .ok (.iload_n 2, 1) := by decide +kernel
theorem d_Mod_isOn_17 : decode b_Mod_isOn 17 = .ok (.iaload, 1) := by decide +kernel
theorem d_Mod_isOn_18 : decode b_Mod_isOn 18 = .ok (.if_icmp .ge 12, 3) := by decide +kernel
theorem d_Mod_isOn_21 : decode b_Mod_isOn 21 = .ok (.aload_n 0, 1) := by decide +kernel
theorem d_Mod_isOn_22 : decode b_Mod_isOn 22 = .ok (.getfield 20, 3) := by decide +kernel
theorem d_Mod_isOn_25 : decode b_Mod_isOn 25 = .ok (.iload_n 1, 1) := by decide +kernel
theorem d_Mod_isOn_26 : decode b_Mod_isOn 26 = .ok (.iaload, 1) := by decide +kernel
theorem d_Mod_isOn_27 : decode b_Mod_isOn 27 = .ok (.goto 9, 3) := by decide +kernel
theorem d_Mod_isOn_30 : decode b_Mod_isOn 30 = .ok (.aload_n 0, 1) := by decide +kernel
theorem d_Mod_isOn_31 : decode b_Mod_isOn 31 = .ok (.getfield 20, 3) := by decide +kernel
theorem d_Mod_isOn_34 : decode b_Mod_isOn 34 = .ok (.iload_n 2, 1) := by decide +kernel
theorem d_Mod_isOn_35 : decode b_Mod_isOn 35 = .ok (.iaload, 1) := by decide +kernel
theorem d_Mod_isOn_36 : decode b_Mod_isOn 36 = .ok (.if_icmp .lt 46, 3) := by decide +kernel
theorem d_Mod_isOn_39 : decode b_Mod_isOn 39 = .ok (.aload_n 0, 1) := by decide +kernel
theorem d_Mod_isOn_40 : decode b_Mod_isOn 40 = .ok (.getfield 20, 3) := by decide +kernel
theorem d_Mod_isOn_43 : decode b_Mod_isOn 43 = .ok (.iload_n 3, 1) := by decide +kernel
theorem d_Mod_isOn_44 : decode b_Mod_isOn 44 = .ok (.iaload, 1) := by decide +kernel
theorem d_Mod_isOn_45 : decode b_Mod_isOn 45 = .ok (.aload_n 0, 1) := by decide +kernel
theorem d_Mod_isOn_46 : decode b_Mod_isOn 46 = .ok (.getfield 20, 3) := by decide +kernel
theorem d_Mod_isOn_49 : decode b_Mod_isOn 49 = .ok (.iload_n 1, 1) := by decide +kernel
theorem d_Mod_isOn_50 : decode b_Mod_isOn 50 = .ok (.iaload, 1) := by decide +kernel
theorem d_Mod_isOn_51 : decode b_Mod_isOn 51 = .ok (.aload_n 0, 1) := by decide +kernel
theorem d_Mod_isOn_52 : decode b_Mod_isOn 52 = .ok (.getfield 20, 3) := by decide +kernel
theorem d_Mod_isOn_55 : decode b_Mod_isOn 55 = .ok (.iload_n 2, 1) := by decide +kernel
theorem d_Mod_isOn_56 : decode b_Mod_isOn 56 = .ok (.iaload, 1) := by decide +kernel
theorem d_Mod_isOn_57 : decode b_Mod_isOn 57 = .ok (.if_icmp .ge 12, 3) := by decide +kernel
theorem d_Mod_isOn_60 : decode b_Mod_isOn 60 = .ok (.aload_n 0, 1) := by decide +kernel
theorem d_Mod_isOn_61 : decode b_Mod_isOn 61 = .ok (.getfield 20, 3) := by decide +kernel
theorem d_Mod_isOn_64 : decode b_Mod_isOn 64 = .ok (.iload_n 2, 1) := by decide +kernel
theorem d_Mod_isOn_65 : decode b_Mod_isOn 65 = .ok (.iaload, 1) := by decide +kernel
theorem d_Mod_isOn_66 : decode b_Mod_isOn 66 = .ok (.goto 9, 3) := by decide +kernel
theorem d_Mod_isOn_69 : decode b_Mod_isOn 69 = .ok (.aload_n 0, 1) := by decide +kernel
theorem d_Mod_isOn_70 : decode b_Mod_isOn 70 = .ok (.getfield 20, 3) := by decide +kernel
theorem d_Mod_isOn_73 : decode b_Mod_isOn 73 = .ok (.iload_n 1, 1) := by decide +kernel
theorem d_Mod_isOn_74 : decode b_Mod_isOn 74 = .ok (.iaload, 1) := by decide +kernel
theorem d_Mod_isOn_75 : decode b_Mod_isOn 75 = .ok (.if_icmp .gt 7, 3) := by decide +kernel
theorem d_Mod_isOn_78 : decode b_Mod_isOn 78 = .ok (.iconst 1, 1) := by decide +kernel
theorem d_Mod_isOn_79 : decode b_Mod_isOn 79 = .ok (.goto 4, 3) := by decide +kernel
theorem d_Mod_isOn_82 : decode b_Mod_isOn 82 = .ok (.iconst 0, 1) := by decide +kernel
theorem d_Mod_isOn_83 : decode b_Mod_isOn 83 = .ok (.istore 4, 2) := by decide +kernel
theorem d_Mod_isOn_85 : decode b_Mod_isOn 85 = .ok (.aload_n 0, 1) := by decide +kernel
theorem d_Mod_isOn_86 : decode b_Mod_isOn 86 = .ok (.getfield 23, 3) := by decide +kernel
theorem d_Mod_isOn_89 : decode b_Mod_isOn 89 = .ok (.iload_n 3, 1) := by decide +kernel
theorem d_Mod_isOn_90 : decode b_Mod_isOn 90 = .ok (.iaload, 1) := by decide +kernel
theorem d_Mod_isOn_91 : decode b_Mod_isOn 91 = .ok (.aload_n 0, 1) := by decide +kernel
theorem d_Mod_isOn_92 : decode b_Mod_isOn 92 = .ok (.getfield 23, 3) := by decide +kernel
theorem d_Mod_isOn_95 : decode b_Mod_isOn 95 = .ok (.iload_n 1, 1) := by decide +kernel
theorem d_Mod_isOn_96 : decode b_Mod_isOn 96 = .ok (.iaload, 1) := by decide +kernel
theorem d_Mod_isOn_97 : decode b_Mod_isOn 97 = .ok (.aload_n 0, 1) := by decide +kernel
theorem d_Mod_isOn_98 : decode b_Mod_isOn 98 = .ok (.getfield 23, 3) := by decide +kernel
theorem d_Mod_isOn_101 : decode b_Mod_isOn 101 = .ok (.iload_n 2, 1) := by decide +kernel
theorem d_Mod_isOn_102 : decode b_Mod_isOn 102 = .ok (.iaload, 1) := by decide +kernel
theorem d_Mod_isOn_103 : decode b_Mod_isOn 103 = .ok (.if_icmp .ge 12, 3) := by decide +kernel
theorem d_Mod_isOn_106 : decode b_Mod_isOn 106 = .ok (.aload_n 0, 1) := by decide +kernel
theorem d_Mod_isOn_107 : decode b_Mod_isOn 107 = .ok (.getfield 23, 3) := by decide +kernel
theorem d_Mod_isOn_110 : decode b_Mod_isOn 110 = .ok (.iload_n 1, 1) := by decide +kernel
theorem d_Mod_isOn_111 : decode b_Mod_isOn 111 = .ok (.iaload, 1) := by decide +kernel
theorem d_Mod_isOn_112 : decode b_Mod_isOn 112 = .ok (.goto 9, 3) := by decide +kernel
theorem d_Mod_isOn_115 : decode b_Mod_isOn 115 = .ok (.aload_n 0, 1) := by decide +kernel
theorem d_Mod_isOn_116 : decode b_Mod_isOn 116 = .ok (.getfield 23, 3) := by decide +kernel
theorem d_Mod_isOn_119 : decode b_Mod_isOn 119 = .ok (.iload_n 2, 1) := by decide +kernel
theorem d_Mod_isOn_120 : decode b_Mod_isOn 120 = .ok (.iaload, 1) := by decide +kernel
