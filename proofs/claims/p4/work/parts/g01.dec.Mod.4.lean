theorem d_Mod_degreeIn_58 : decode b_Mod_degreeIn 58 = .ok (.iload_n 3, 1) := by decide +kernel
theorem d_Mod_degreeIn_59 : decode b_Mod_degreeIn 59 = .ok (.ireturn, 1) := by decide +kernel
theorem d_Mod_drawable_0 : decode b_Mod_drawable 0 = .ok (.aload_n 0, 1) := by decide +kernel
theorem d_Mod_drawable_1 : decode b_Mod_drawable 1 = .ok (.iconst 0, 1) := by decide +kernel
theorem d_Mod_drawable_2 : decode b_Mod_drawable 2 = .ok (.putfield 68, 3) := by decide +kernel
theorem d_Mod_drawable_5 : decode b_Mod_drawable 5 = .ok (.aload_n 0, 1) := by decide +kernel
theorem d_Mod_drawable_6 : decode b_Mod_drawable 6 = .ok (.aload_n 0, 1) := by decide +kernel
theorem d_Mod_drawable_7 : decode b_Mod_drawable 7 = .ok (.invokevirtual 103, 3) := by decide +kernel
theorem d_Mod_drawable_10 : decode b_Mod_drawable 10 = .ok (.invokevirtual 151, 3) := by decide +kernel
theorem d_Mod_drawable_13 : decode b_Mod_drawable 13 = .ok (.ireturn, 1) := by decide +kernel
theorem d_Mod_drop_0 : decode b_Mod_drop 0 = .ok (.aload_n 0, 1) := by decide +kernel
theorem d_Mod_drop_1 : decode b_Mod_drop 1 = .ok (.aload_n 0, 1) := by decide +kernel
theorem d_Mod_drop_2 : decode b_Mod_drop 2 = .ok (.iload_n 1, 1) := by decide +kernel
theorem d_Mod_drop_3 : decode b_Mod_drop 3 = .ok (.invokevirtual 76, 3) := by decide +kernel
theorem d_Mod_drop_6 : decode b_Mod_drop 6 = .ok (.ifCond .ne 7, 3) := by decide +kernel
theorem d_Mod_drop_9 : decode b_Mod_drop 9 = .ok (.iconst 1, 1) := by decide +kernel
theorem d_Mod_drop_10 : decode b_Mod_drop 10 = .ok (.goto 4, 3) := by decide +kernel
theorem d_Mod_drop_13 : decode b_Mod_drop 13 = .ok (.iconst 0, 1) := by decide +kernel
theorem d_Mod_drop_14 : decode b_Mod_drop 14 = .ok (.iconst 0, 1) := by decide +kernel
theorem d_Mod_drop_15 : decode b_Mod_drop 15 = .ok (.iconst 0, 1) := by decide +kernel
theorem d_Mod_drop_16 : decode b_Mod_drop 16 = .ok (.invokevirtual 79, 3) := by decide +kernel
theorem d_Mod_drop_19 : decode b_Mod_drop 19 = .ok (.ifCond .eq 5, 3) := by decide +kernel
theorem d_Mod_drop_22 : decode b_Mod_drop 22 = .ok (.iconst 0, 1) := by decide +kernel
theorem d_Mod_drop_23 : decode b_Mod_drop 23 = .ok (.ireturn, 1) := by decide +kernel
theorem d_Mod_drop_24 : decode b_Mod_drop 24 = .ok (.iconst 0, 1) := by decide +kernel
theorem d_Mod_drop_25 : decode b_Mod_drop 25 = .ok (.istore_n 2, 1) := by decide +kernel
theorem d_Mod_drop_26 : decode b_Mod_drop 26 = .ok (.iconst 0, 1) := by decide +kernel
theorem d_Mod_drop_27 : decode b_Mod_drop 27 = .ok (.istore_n 3, 1) := by decide +kernel
theorem d_Mod_drop_28 : decode b_Mod_drop 28 = .ok (.iload_n 3, 1) := by decide +kernel
theorem d_Mod_drop_29 : decode b_Mod_drop 29 = .ok (.bipush 24, 2) := by decide +kernel
theorem d_Mod_drop_31 : decode b_Mod_drop 31 = .ok (.if_icmp .ge 48, 3) := by decide +kernel
theorem d_Mod_drop_34 : decode b_Mod_drop 34 = .ok (.aload_n 0, 1) := by decide +kernel
theorem d_Mod_drop_35 : decode b_Mod_drop 35 = .ok (.getfield 13, 3) := by decide +kernel
theorem d_Mod_drop_38 : decode b_Mod_drop 38 = .ok (.iload_n 3, 1) := by decide +kernel
theorem d_Mod_drop_39 : decode b_Mod_drop 39 = .ok (.iaload, 1) := by decide +kernel
theorem d_Mod_drop_40 : decode b_Mod_drop 40 = .ok (.ifCond .lt 33, 3) := by decide +kernel
theorem d_Mod_drop_43 : decode b_Mod_drop 43 = .ok (.aload_n 0, 1) := by decide +kernel
theorem d_Mod_drop_44 : decode b_Mod_drop 44 = .ok (.getfield 13, 3) := by decide +kernel
theorem d_Mod_drop_47 : decode b_Mod_drop 47 = .ok (.iload_n 3, 1) := by decide +kernel
theorem d_Mod_drop_48 : decode b_Mod_drop 48 = .ok (.iaload, 1) := by decide +kernel
theorem d_Mod_drop_49 : decode b_Mod_drop 49 = .ok (.iload_n 1, 1) := by decide +kernel
theorem d_Mod_drop_50 : decode b_Mod_drop 50 = .ok (.if_icmp .eq 13, 3) := by decide +kernel
theorem d_Mod_drop_53 : decode b_Mod_drop 53 = .ok (.aload_n 0, 1) := by decide +kernel
theorem d_Mod_drop_54 : decode b_Mod_drop 54 = .ok (.getfield 17, 3) := by decide +kernel
theorem d_Mod_drop_57 : decode b_Mod_drop 57 = .ok (.iload_n 3, 1) := by decide +kernel
theorem d_Mod_drop_58 : decode b_Mod_drop 58 = .ok (.iaload, 1) := by decide +kernel
theorem d_Mod_drop_59 : decode b_Mod_drop 59 = .ok (.iload_n 1, 1) := by decide +kernel
theorem d_Mod_drop_60 : decode b_Mod_drop 60 = .ok (.if_icmp .ne 13, 3) := by decide +kernel
theorem d_Mod_drop_63 : decode b_Mod_drop 63 = .ok (.aload_n 0, 1) := by decide +kernel
theorem d_Mod_drop_64 : decode b_Mod_drop 64 = .ok (.getfield 13, 3) := by decide +kernel
theorem d_Mod_drop_67 : decode b_Mod_drop 67 = .ok (.iload_n 3, 1) := by decide +kernel
theorem d_Mod_drop_68 : decode b_Mod_drop 68 = .ok (.iconst (-1), 1) := by decide +kernel
theorem d_Mod_drop_69 : decode b_Mod_drop 69 = .ok (.iastore, 1) := by decide +kernel
theorem d_Mod_drop_70 : decode b_Mod_drop 70 = .ok (.iinc 2 1, 3) := by decide +kernel
theorem d_Mod_drop_73 : decode b_Mod_drop 73 = .ok (.iinc 3 1, 3) := by decide +kernel
theorem d_Mod_drop_76 : decode b_Mod_drop 76 = .ok (.goto (-48), 3) := by decide +kernel
theorem d_Mod_drop_79 : decode b_Mod_drop 79 = .ok (.aload_n 0, 1) := by decide +kernel
theorem d_Mod_drop_80 : decode b_Mod_drop 80 = .ok (.getfield 7, 3) := by decide +kernel
theorem d_Mod_drop_83 : decode b_Mod_drop 83 = .ok (.iload_n 1, 1) := by decide +kernel
theorem d_Mod_drop_84 : decode b_Mod_drop 84 = .ok (.iconst 0, 1) := by decide +kernel
theorem d_Mod_drop_85 : decode b_Mod_drop 85 = .ok (.bastore, 1) := by decide +kernel
theorem d_Mod_drop_86 : decode b_Mod_drop 86 = .ok (.iload_n 2, 1) := by decide +kernel
theorem d_Mod_drop_87 : decode b_Mod_drop 87 = .ok (.ireturn, 1) := by decide +kernel
theorem d_Mod_end_0 : decode b_Mod_end 0 = .ok (.aload_n 0, 1) := by decide +kernel
theorem d_Mod_end_1 : decode b_Mod_end 1 = .ok (.aload_n 0, 1) := by decide +kernel
theorem d_Mod_end_2 : decode b_Mod_end 2 = .ok (.iload_n 1, 1) := by decide +kernel
theorem d_Mod_end_3 : decode b_Mod_end 3 = .ok (.invokevirtual 94, 3) := by decide +kernel
theorem d_Mod_end_6 : decode b_Mod_end 6 = .ok (.ifCond .ne 7, 3) := by decide +kernel
theorem d_Mod_end_9 : decode b_Mod_end 9 = .ok (.iconst 1, 1) := by decide +kernel
theorem d_Mod_end_10 : decode b_Mod_end 10 = .ok (.goto 4, 3) := by decide +kernel
theorem d_Mod_end_13 : decode b_Mod_end 13 = .ok (.iconst 0, 1) := by decide +kernel
theorem d_Mod_end_14 : decode b_Mod_end 14 = .ok (.iload_n 2, 1) := by decide +kernel
theorem d_Mod_end_15 : decode b_Mod_end 15 = .ok (.ifCond .lt 8, 3) := by decide +kernel
theorem d_Mod_end_18 : decode b_Mod_end 18 = .ok (.iload_n 2, 1) := by decide +kernel
theorem d_Mod_end_19 : decode b_Mod_end 19 = .ok (.iconst 1, 1) := by decide +kernel
theorem d_Mod_end_20 : decode b_Mod_end 20 = .ok (.if_icmp .le 7, 3) := by decide +kernel
theorem d_Mod_end_23 : decode b_Mod_end 23 = .ok (.iconst 1, 1) := by decide +kernel
theorem d_Mod_end_24 : decode b_Mod_end 24 = .ok (.goto 4, 3) := by decide +kernel
theorem d_Mod_end_27 : decode b_Mod_end 27 = .ok (.iconst 0, 1) := by decide +kernel
theorem d_Mod_end_28 : decode b_Mod_end 28 = .ok (.iconst 0, 1) := by decide +kernel
theorem d_Mod_end_29 : decode b_Mod_end 29 = .ok (.invokevirtual 79, 3) := by decide +kernel
theorem d_Mod_end_32 : decode b_Mod_end 32 = .ok (.ifCond .eq 5, 3) := by decide +kernel
theorem d_Mod_end_35 : decode b_Mod_end 35 = .ok (.iconst 0, 1) := by decide +kernel
theorem d_Mod_end_36 : decode b_Mod_end 36 = .ok (.ireturn, 1) := by decide +kernel
theorem d_Mod_end_37 : decode b_Mod_end 37 = .ok (.iload_n 2, 1) := by decide +kernel
theorem d_Mod_end_38 : decode b_Mod_end 38 = .ok (.ifCond .ne 12, 3) := by decide +kernel
theorem d_Mod_end_41 : decode b_Mod_end 41 = .ok (.aload_n 0, 1) := by decide +kernel
theorem d_Mod_end_42 : decode b_Mod_end 42 = .ok (.getfield 13, 3) := by decide +kernel
theorem d_Mod_end_45 : decode b_Mod_end 45 = .ok (.iload_n 1, 1) := by decide +kernel
theorem d_Mod_end_46 : decode b_Mod_end 46 = .ok (.iaload, 1) := by decide +kernel
theorem d_Mod_end_47 : decode b_Mod_end 47 = .ok (.goto 9, 3) := by decide +kernel
theorem d_Mod_end_50 : decode b_Mod_end 50 = .ok (.aload_n 0, 1) := by decide +kernel
theorem d_Mod_end_51 : decode b_Mod_end 51 = .ok (.getfield 17, 3) := by decide +kernel
theorem d_Mod_end_54 : decode b_Mod_end 54 = .ok (.iload_n 1, 1) := by decide +kernel
theorem d_Mod_end_55 : decode b_Mod_end 55 = .ok (.iaload, 1) := by decide +kernel
theorem d_Mod_end_56 : decode b_Mod_end 56 = .ok (.ireturn, 1) := by decide +kernel
theorem d_Mod_faces_0 : decode b_Mod_faces 0 = .ok (.aload_n 0, 1) := by decide +kernel
theorem d_Mod_faces_1 : decode b_Mod_faces 1 = .ok (.aload_n 0, 1) := by decide +kernel
theorem d_Mod_faces_2 : decode b_Mod_faces 2 = .ok (.aload_n 0, 1) := by decide +kernel
theorem d_Mod_faces_3 : decode b_Mod_faces 3 = .ok (.invokevirtual 103, 3) := by decide +kernel
theorem d_Mod_faces_6 : decode b_Mod_faces 6 = .ok (.invokevirtual 151, 3) := by decide +kernel
theorem d_Mod_faces_9 : decode b_Mod_faces 9 = .ok (.ifCond .ne 7, 3) := by decide +kernel
theorem d_Mod_faces_12 : decode b_Mod_faces 12 = .ok (.iconst 1, 1) := by decide +kernel
theorem d_Mod_faces_13 : decode b_Mod_faces 13 = .ok (.goto 4, 3) := by decide +kernel
theorem d_Mod_faces_16 : decode b_Mod_faces 16 = .ok (.iconst 0, 1) := by decide +kernel
theorem d_Mod_faces_17 : decode b_Mod_faces 17 = .ok (.iconst 0, 1) := by decide +kernel
theorem d_Mod_faces_18 : decode b_Mod_faces 18 = .ok (.iconst 0, 1) := by decide +kernel
theorem d_Mod_faces_19 : decode b_Mod_faces 19 = .ok (.invokevirtual 79, 3) := by decide +kernel
theorem d_Mod_faces_22 : decode b_Mod_faces 22 = .ok (.ifCond .eq 5, 3) := by decide +kernel
theorem d_Mod_faces_25 : decode b_Mod_faces 25 = .ok (.iconst 0, 1) := by decide +kernel
theorem d_Mod_faces_26 : decode b_Mod_faces 26 = .ok (.ireturn, 1) := by decide +kernel
theorem d_Mod_faces_27 : decode b_Mod_faces 27 = .ok (.aload_n 0, 1) := by decide +kernel
theorem d_Mod_faces_28 : decode b_Mod_faces 28 = .ok (.invokevirtual 97, 3) := by decide +kernel
theorem d_Mod_faces_31 : decode b_Mod_faces 31 = .ok (.aload_n 0, 1) := by decide +kernel
theorem d_Mod_faces_32 : decode b_Mod_faces 32 = .ok (.invokevirtual 83, 3) := by decide +kernel
theorem d_Mod_faces_35 : decode b_Mod_faces 35 = .ok (.isub, 1) := by decide +kernel
theorem d_Mod_faces_36 : decode b_Mod_faces 36 = .ok (.aload_n 0, 1) := by decide +kernel
theorem d_Mod_faces_37 : decode b_Mod_faces 37 = .ok (.iconst (-1), 1) := by decide +kernel
theorem d_Mod_faces_38 : decode b_Mod_faces 38 = .ok (.iconst (-1), 1) := by decide +kernel
theorem d_Mod_faces_39 : decode b_Mod_faces 39 = .ok (.invokevirtual 170, 3) := by decide +kernel
theorem d_Mod_faces_42 : decode b_Mod_faces 42 = .ok (.iadd, 1) := by decide +kernel
theorem d_Mod_faces_43 : decode b_Mod_faces 43 = .ok (.iconst 1, 1) := by decide +kernel
theorem d_Mod_faces_44 : decode b_Mod_faces 44 = .ok (.iadd, 1) := by decide +kernel
theorem d_Mod_faces_45 : decode b_Mod_faces 45 = .ok (.ireturn, 1) := by decide +kernel
theorem d_Mod_firstFree_0 : decode b_Mod_firstFree 0 = .ok (.iconst 0, 1) := by decide +kernel
theorem d_Mod_firstFree_1 : decode b_Mod_firstFree 1 = .ok (.istore_n 1, 1) := by decide +kernel
theorem d_Mod_firstFree_2 : decode b_Mod_firstFree 2 = .ok (.iload_n 1, 1) := by decide +kernel
theorem d_Mod_firstFree_3 : decode b_Mod_firstFree 3 = .ok (.bipush 24, 2) := by decide +kernel
theorem d_Mod_firstFree_5 : decode b_Mod_firstFree 5 = .ok (.if_icmp .ge 18, 3) := by decide +kernel
theorem d_Mod_firstFree_8 : decode b_Mod_firstFree 8 = .ok (.aload_n 0, 1) := by decide +kernel
theorem d_Mod_firstFree_9 : decode b_Mod_firstFree 9 = .ok (.getfield 13, 3) := by decide +kernel
theorem d_Mod_firstFree_12 : decode b_Mod_firstFree 12 = .ok (.iload_n 1, 1) := by decide +kernel
theorem d_Mod_firstFree_13 : decode b_Mod_firstFree 13 = .ok (.iaload, 1) := by decide +kernel
theorem d_Mod_firstFree_14 : decode b_Mod_firstFree 14 = .ok (.ifCond .lt 9, 3) := by decide +kernel
theorem d_Mod_firstFree_17 : decode b_Mod_firstFree 17 = .ok (.iinc 1 1, 3) := by decide +kernel
theorem d_Mod_firstFree_20 : decode b_Mod_firstFree 20 = .ok (.goto (-18), 3) := by decide +kernel
theorem d_Mod_firstFree_23 : decode b_Mod_firstFree 23 = .ok (.iload_n 1, 1) := by decide +kernel
theorem d_Mod_firstFree_24 : decode b_Mod_firstFree 24 = .ok (.ireturn, 1) := by decide +kernel
theorem d_Mod_fits_0 : decode b_Mod_fits 0 = .ok (.iconst 1, 1) := by decide +kernel
theorem d_Mod_fits_1 : decode b_Mod_fits 1 = .ok (.istore_n 2, 1) := by decide +kernel
theorem d_Mod_fits_2 : decode b_Mod_fits 2 = .ok (.iconst 0, 1) := by decide +kernel
theorem d_Mod_fits_3 : decode b_Mod_fits 3 = .ok (.istore_n 3, 1) := by decide +kernel
theorem d_Mod_fits_4 : decode b_Mod_fits 4 = .ok (.iload_n 3, 1) := by decide +kernel
theorem d_Mod_fits_5 : decode b_Mod_fits 5 = .ok (.bipush 24, 2) := by decide +kernel
theorem d_Mod_fits_7 : decode b_Mod_fits 7 = .ok (.if_icmp .ge 70, 3) := by decide +kernel
theorem d_Mod_fits_10 : decode b_Mod_fits 10 = .ok (.aload_n 0, 1) := by decide +kernel
theorem d_Mod_fits_11 : decode b_Mod_fits 11 = .ok (.getfield 13, 3) := by decide +kernel
theorem d_Mod_fits_14 : decode b_Mod_fits 14 = .ok (.iload_n 3, 1) := by decide +kernel
theorem d_Mod_fits_15 : decode b_Mod_fits 15 = .ok (.iaload, 1) := by decide +kernel
theorem d_Mod_fits_16 : decode b_Mod_fits 16 = .ok (.ifCond .lt 17, 3) := by decide +kernel
theorem d_Mod_fits_19 : decode b_Mod_fits 19 = .ok (.aload_n 0, 1) := by decide +kernel
theorem d_Mod_fits_20 : decode b_Mod_fits 20 = .ok (.getfield 17, 3) := by decide +kernel
theorem d_Mod_fits_23 : decode b_Mod_fits 23 = .ok (.iload_n 3, 1) := by decide +kernel
theorem d_Mod_fits_24 : decode b_Mod_fits 24 = .ok (.iaload, 1) := by decide +kernel
theorem d_Mod_fits_25 : decode b_Mod_fits 25 = .ok (.iload_n 1, 1) := by decide +kernel
theorem d_Mod_fits_26 : decode b_Mod_fits 26 = .ok (.if_icmp .ne 7, 3) := by decide +kernel
theorem d_Mod_fits_29 : decode b_Mod_fits 29 = .ok (.iconst 1, 1) := by decide +kernel
theorem d_Mod_fits_30 : decode b_Mod_fits 30 = .ok (.goto 4, 3) := by decide +kernel
theorem d_Mod_fits_33 : decode b_Mod_fits 33 = .ok (.iconst 0, 1) := by decide +kernel
theorem d_Mod_fits_34 : decode b_Mod_fits 34 = .ok (.istore 4, 2) := by decide +kernel
theorem d_Mod_fits_36 : decode b_Mod_fits 36 = .ok (.iload_n 2, 1) := by decide +kernel
theorem d_Mod_fits_37 : decode b_Mod_fits 37 = .ok (.ifCond .eq 32, 3) := by decide +kernel
theorem d_Mod_fits_40 : decode b_Mod_fits 40 = .ok (.iload 4, 2) := by decide +kernel
theorem d_Mod_fits_42 : decode b_Mod_fits 42 = .ok (.ifCond .eq 23, 3) := by decide +kernel
theorem d_Mod_fits_45 : decode b_Mod_fits 45 = .ok (.aload_n 0, 1) := by decide +kernel
theorem d_Mod_fits_46 : decode b_Mod_fits 46 = .ok (.getfield 62, 3) := by decide +kernel
theorem d_Mod_fits_49 : decode b_Mod_fits 49 = .ok (.aload_n 0, 1) := by decide +kernel
theorem d_Mod_fits_50 : decode b_Mod_fits 50 = .ok (.getfield 13, 3) := by decide +kernel
theorem d_Mod_fits_53 : decode b_Mod_fits 53 = .ok (.iload_n 3, 1) := by decide +kernel
theorem d_Mod_fits_54 : decode b_Mod_fits 54 = .ok (.iaload, 1) := by decide +kernel
theorem d_Mod_fits_55 : decode b_Mod_fits 55 = .ok (.iaload, 1) := by decide +kernel
theorem d_Mod_fits_56 : decode b_Mod_fits 56 = .ok (.aload_n 0, 1) := by decide +kernel
theorem d_Mod_fits_57 : decode b_Mod_fits 57 = .ok (.getfield 62, 3) := by decide +kernel
theorem d_Mod_fits_60 : decode b_Mod_fits 60 = .ok (.iload_n 1, 1) := by decide +kernel
theorem d_Mod_fits_61 : decode b_Mod_fits 61 = .ok (.iaload, 1) := by decide +kernel
theorem d_Mod_fits_62 : decode b_Mod_fits 62 = .ok (.if_icmp .eq 7, 3) := by decide +kernel
theorem d_Mod_fits_65 : decode b_Mod_fits 65 = .ok (.iconst 1, 1) := by decide +kernel
theorem d_Mod_fits_66 : decode b_Mod_fits 66 = .ok (.goto 4, 3) := by decide +kernel
theorem d_Mod_fits_69 : decode b_Mod_fits 69 = .ok (.iconst 0, 1) := by decide +kernel
theorem d_Mod_fits_70 : decode b_Mod_fits 70 = .ok (.istore_n 2, 1) := by decide +kernel
theorem d_Mod_fits_71 : decode b_Mod_fits 71 = .ok (.iinc 3 1, 3) := by decide +kernel
theorem d_Mod_fits_74 : decode b_Mod_fits 74 = .ok (.goto (-70), 3) := by decide +kernel
theorem d_Mod_fits_77 : decode b_Mod_fits 77 = .ok (.iload_n 2, 1) := by decide +kernel
theorem d_Mod_fits_78 : decode b_Mod_fits 78 = .ok (.ireturn, 1) := by decide +kernel
theorem d_Mod_flat_0 : decode b_Mod_flat 0 = .ok (.aload_n 0, 1) := by decide +kernel
theorem d_Mod_flat_1 : decode b_Mod_flat 1 = .ok (.iconst 0, 1) := by decide +kernel
theorem d_Mod_flat_2 : decode b_Mod_flat 2 = .ok (.putfield 68, 3) := by decide +kernel
theorem d_Mod_flat_5 : decode b_Mod_flat 5 = .ok (.aload_n 0, 1) := by decide +kernel
theorem d_Mod_flat_6 : decode b_Mod_flat 6 = .ok (.invokevirtual 197, 3) := by decide +kernel
theorem d_Mod_flat_9 : decode b_Mod_flat 9 = .ok (.ifCond .ne 14, 3) := by decide +kernel
theorem d_Mod_flat_12 : decode b_Mod_flat 12 = .ok (.aload_n 0, 1) := by decide +kernel
theorem d_Mod_flat_13 : decode b_Mod_flat 13 = .ok (.invokevirtual 203, 3) := by decide +kernel
theorem d_Mod_flat_16 : decode b_Mod_flat 16 = .ok (.ifCond .ne 7, 3) := by decide +kernel
theorem d_Mod_flat_19 : decode b_Mod_flat 19 = .ok (.iconst 1, 1) := by decide +kernel
theorem d_Mod_flat_20 : decode b_Mod_flat 20 = .ok (.goto 4, 3) := by decide +kernel
theorem d_Mod_flat_23 : decode b_Mod_flat 23 = .ok (.iconst 0, 1) := by decide +kernel
theorem d_Mod_flat_24 : decode b_Mod_flat 24 = .ok (.ireturn, 1) := by decide +kernel
theorem d_Mod_goes_0 : decode b_Mod_goes 0 = .ok (.aload_n 0, 1) := by decide +kernel
theorem d_Mod_goes_1 : decode b_Mod_goes 1 = .ok (.iload_n 1, 1) := by decide +kernel
theorem d_Mod_goes_2 : decode b_Mod_goes 2 = .ok (.invokevirtual 124, 3) := by decide +kernel
theorem d_Mod_goes_5 : decode b_Mod_goes 5 = .ok (.istore 4, 2) := by decide +kernel
theorem d_Mod_goes_7 : decode b_Mod_goes 7 = .ok (.aload_n 0, 1) := by decide +kernel
theorem d_Mod_goes_8 : decode b_Mod_goes 8 = .ok (.iload_n 2, 1) := by decide +kernel
theorem d_Mod_goes_9 : decode b_Mod_goes 9 = .ok (.invokevirtual 124, 3) := by decide +kernel
theorem d_Mod_goes_12 : decode b_Mod_goes 12 = .ok (.istore 5, 2) := by decide +kernel
theorem d_Mod_goes_14 : decode b_Mod_goes 14 = .ok (.aload_n 0, 1) := by decide +kernel
theorem d_Mod_goes_15 : decode b_Mod_goes 15 = .ok (.iload_n 1, 1) := by decide +kernel
theorem d_Mod_goes_16 : decode b_Mod_goes 16 = .ok (.invokevirtual 128, 3) := by decide +kernel
theorem d_Mod_goes_19 : decode b_Mod_goes 19 = .ok (.aload_n 0, 1) := by decide +kernel
theorem d_Mod_goes_20 : decode b_Mod_goes 20 = .ok (.iload_n 2, 1) := by decide +kernel
theorem d_Mod_goes_21 : decode b_Mod_goes 21 = .ok (.invokevirtual 128, 3) := by decide +kernel
theorem d_Mod_goes_24 : decode b_Mod_goes 24 = .ok (.ixor, 1) := by decide +kernel
theorem d_Mod_goes_25 : decode b_Mod_goes 25 = .ok (.istore 6, 2) := by decide +kernel
theorem d_Mod_goes_27 : decode b_Mod_goes 27 = .ok (.iload 4, 2) := by decide +kernel
theorem d_Mod_goes_29 : decode b_Mod_goes 29 = .ok (.iload 5, 2) := by decide +kernel
theorem d_Mod_goes_31 : decode b_Mod_goes 31 = .ok (.if_icmp .ne 15, 3) := by decide +kernel
theorem d_Mod_goes_34 : decode b_Mod_goes 34 = .ok (.iload 6, 2) := by decide +kernel
theorem d_Mod_goes_36 : decode b_Mod_goes 36 = .ok (.iload_n 3, 1) := by decide +kernel
theorem d_Mod_goes_37 : decode b_Mod_goes 37 = .ok (.if_icmp .ne 7, 3) := by decide +kernel
theorem d_Mod_goes_40 : decode b_Mod_goes 40 = .ok (.iconst 1, 1) := by decide +kernel
theorem d_Mod_goes_41 : decode b_Mod_goes 41 = .ok (.goto 4, 3) := by decide +kernel
theorem d_Mod_goes_44 : decode b_Mod_goes 44 = .ok (.iconst 0, 1) := by decide +kernel
theorem d_Mod_goes_45 : decode b_Mod_goes 45 = .ok (.ireturn, 1) := by decide +kernel
theorem d_Mod_goes_46 : decode b_Mod_goes 46 = .ok (.aload_n 0, 1) := by decide +kernel
theorem d_Mod_goes_47 : decode b_Mod_goes 47 = .ok (.getfield 53, 3) := by decide +kernel
theorem d_Mod_goes_50 : decode b_Mod_goes 50 = .ok (.iload 4, 2) := by decide +kernel
theorem d_Mod_goes_52 : decode b_Mod_goes 52 = .ok (.iload 5, 2) := by decide +kernel
theorem d_Mod_goes_54 : decode b_Mod_goes 54 = .ok (.iastore, 1) := by decide +kernel
theorem d_Mod_goes_55 : decode b_Mod_goes 55 = .ok (.aload_n 0, 1) := by decide +kernel
theorem d_Mod_goes_56 : decode b_Mod_goes 56 = .ok (.getfield 56, 3) := by decide +kernel
theorem d_Mod_goes_59 : decode b_Mod_goes 59 = .ok (.iload 4, 2) := by decide +kernel
theorem d_Mod_goes_61 : decode b_Mod_goes 61 = .ok (.iload 6, 2) := by decide +kernel
theorem d_Mod_goes_63 : decode b_Mod_goes 63 = .ok (.iload_n 3, 1) := by decide +kernel
theorem d_Mod_goes_64 : decode b_Mod_goes 64 = .ok (.ixor, 1) := by decide +kernel
theorem d_Mod_goes_65 : decode b_Mod_goes 65 = .ok (.iastore, 1) := by decide +kernel
theorem d_Mod_goes_66 : decode b_Mod_goes 66 = .ok (.iconst 1, 1) := by decide +kernel
theorem d_Mod_goes_67 : decode b_Mod_goes 67 = .ok (.ireturn, 1) := by decide +kernel
theorem d_Mod_hinge_0 : decode b_Mod_hinge 0 = .ok (.aload_n 0, 1) := by decide +kernel
theorem d_Mod_hinge_1 : decode b_Mod_hinge 1 = .ok (.aload_n 0, 1) := by decide +kernel
theorem d_Mod_hinge_2 : decode b_Mod_hinge 2 = .ok (.iload_n 1, 1) := by decide +kernel
theorem d_Mod_hinge_3 : decode b_Mod_hinge 3 = .ok (.invokevirtual 76, 3) := by decide +kernel
theorem d_Mod_hinge_6 : decode b_Mod_hinge 6 = .ok (.ifCond .ne 7, 3) := by decide +kernel
theorem d_Mod_hinge_9 : decode b_Mod_hinge 9 = .ok (.iconst 1, 1) := by decide +kernel
theorem d_Mod_hinge_10 : decode b_Mod_hinge 10 = .ok (.goto 4, 3) := by decide +kernel
theorem d_Mod_hinge_13 : decode b_Mod_hinge 13 = .ok (.iconst 0, 1) := by decide +kernel
theorem d_Mod_hinge_14 : decode b_Mod_hinge 14 = .ok (.iconst 0, 1) := by decide +kernel
theorem d_Mod_hinge_15 : decode b_Mod_hinge 15 = .ok (.iconst 0, 1) := by decide +kernel
theorem d_Mod_hinge_16 : decode b_Mod_hinge 16 = .ok (.invokevirtual 79, 3) := by decide +kernel
theorem d_Mod_hinge_19 : decode b_Mod_hinge 19 = .ok (.ifCond .ne 22, 3) := by decide +kernel
theorem d_Mod_hinge_22 : decode b_Mod_hinge 22 = .ok (.aload_n 0, 1) := by decide +kernel
