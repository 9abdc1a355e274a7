theorem d_PT_init_0 : decode b_PT_init 0 = .ok (.aload_n 0, 1) := by decide +kernel
theorem d_PT_init_1 : decode b_PT_init 1 = .ok (.invokespecial 3, 3) := by decide +kernel
theorem d_PT_init_4 : decode b_PT_init 4 = .ok (.aload_n 0, 1) := by decide +kernel
theorem d_PT_init_5 : decode b_PT_init 5 = .ok (.bipush 11, 2) := by decide +kernel
theorem d_PT_init_7 : decode b_PT_init 7 = .ok (.newarray .int, 2) := by decide +kernel
theorem d_PT_init_9 : decode b_PT_init 9 = .ok (.putfield 9, 3) := by decide +kernel
theorem d_PT_init_12 : decode b_PT_init 12 = .ok (.aload_n 0, 1) := by decide +kernel
theorem d_PT_init_13 : decode b_PT_init 13 = .ok (.bipush 11, 2) := by decide +kernel
theorem d_PT_init_15 : decode b_PT_init 15 = .ok (.newarray .int, 2) := by decide +kernel
theorem d_PT_init_17 : decode b_PT_init 17 = .ok (.putfield 15, 3) := by decide +kernel
theorem d_PT_init_20 : decode b_PT_init 20 = .ok (.aload_n 0, 1) := by decide +kernel
theorem d_PT_init_21 : decode b_PT_init 21 = .ok (.bipush 121, 2) := by decide +kernel
theorem d_PT_init_23 : decode b_PT_init 23 = .ok (.newarray .int, 2) := by decide +kernel
theorem d_PT_init_25 : decode b_PT_init 25 = .ok (.putfield 18, 3) := by decide +kernel
theorem d_PT_init_28 : decode b_PT_init 28 = .ok (.aload_n 0, 1) := by decide +kernel
theorem d_PT_init_29 : decode b_PT_init 29 = .ok (.bipush 121, 2) := by decide +kernel
theorem d_PT_init_31 : decode b_PT_init 31 = .ok (.newarray .int, 2) := by decide +kernel
theorem d_PT_init_33 : decode b_PT_init 33 = .ok (.putfield 21, 3) := by decide +kernel
theorem d_PT_init_36 : decode b_PT_init 36 = .ok (.aload_n 0, 1) := by decide +kernel
theorem d_PT_init_37 : decode b_PT_init 37 = .ok (.bipush 27, 2) := by decide +kernel
theorem d_PT_init_39 : decode b_PT_init 39 = .ok (.newarray .int, 2) := by decide +kernel
theorem d_PT_init_41 : decode b_PT_init 41 = .ok (.putfield 24, 3) := by decide +kernel
theorem d_PT_init_44 : decode b_PT_init 44 = .ok (.aload_n 0, 1) := by decide +kernel
theorem d_PT_init_45 : decode b_PT_init 45 = .ok (.bipush 27, 2) := by decide +kernel
theorem d_PT_init_47 : decode b_PT_init 47 = .ok (.newarray .int, 2) := by decide +kernel
theorem d_PT_init_49 : decode b_PT_init 49 = .ok (.putfield 27, 3) := by decide +kernel
theorem d_PT_init_52 : decode b_PT_init 52 = .ok (.return_, 1) := by decide +kernel
theorem d_PT_passes_0 : decode b_PT_passes 0 = .ok (.iconst 0, 1) := by decide +kernel
theorem d_PT_passes_1 : decode b_PT_passes 1 = .ok (.istore_n 2, 1) := by decide +kernel
theorem d_PT_passes_2 : decode b_PT_passes 2 = .ok (.iconst 0, 1) := by decide +kernel
theorem d_PT_passes_3 : decode b_PT_passes 3 = .ok (.istore_n 3, 1) := by decide +kernel
theorem d_PT_passes_4 : decode b_PT_passes 4 = .ok (.iconst 0, 1) := by decide +kernel
theorem d_PT_passes_5 : decode b_PT_passes 5 = .ok (.istore 4, 2) := by decide +kernel
theorem d_PT_passes_7 : decode b_PT_passes 7 = .ok (.iload 4, 2) := by decide +kernel
theorem d_PT_passes_9 : decode b_PT_passes 9 = .ok (.bipush 11, 2) := by decide +kernel
theorem d_PT_passes_11 : decode b_PT_passes 11 = .ok (.if_icmp .ge 35, 3) := by decide +kernel
theorem d_PT_passes_14 : decode b_PT_passes 14 = .ok (.iload_n 3, 1) := by decide +kernel
theorem d_PT_passes_15 : decode b_PT_passes 15 = .ok (.aload_n 1, 1) := by decide +kernel
theorem d_PT_passes_16 : decode b_PT_passes 16 = .ok (.iload 4, 2) := by decide +kernel
theorem d_PT_passes_18 : decode b_PT_passes 18 = .ok (.invokevirtual 30, 3) := by decide +kernel
theorem d_PT_passes_21 : decode b_PT_passes 21 = .ok (.iadd, 1) := by decide +kernel
theorem d_PT_passes_22 : decode b_PT_passes 22 = .ok (.istore_n 3, 1) := by decide +kernel
theorem d_PT_passes_23 : decode b_PT_passes 23 = .ok (.iload_n 2, 1) := by decide +kernel
theorem d_PT_passes_24 : decode b_PT_passes 24 = .ok (.aload_n 1, 1) := by decide +kernel
theorem d_PT_passes_25 : decode b_PT_passes 25 = .ok (.iload 4, 2) := by decide +kernel
theorem d_PT_passes_27 : decode b_PT_passes 27 = .ok (.invokevirtual 30, 3) := by decide +kernel
theorem d_PT_passes_30 : decode b_PT_passes 30 = .ok (.ifCond .le 7, 3) := by decide +kernel
theorem d_PT_passes_37 : decode b_PT_passes 37 = .ok (.iconst 0, 1) := by decide +kernel
theorem d_PT_passes_38 : decode b_PT_passes 38 = .ok (.iadd, 1) := by decide +kernel
theorem d_PT_passes_39 : decode b_PT_passes 39 = .ok (.istore_n 2, 1) := by decide +kernel
theorem d_PT_passes_40 : decode b_PT_passes 40 = .ok (.iinc 4 1, 3) := by decide +kernel
theorem d_PT_passes_43 : decode b_PT_passes 43 = .ok (.goto (-36), 3) := by decide +kernel
theorem d_PT_passes_46 : decode b_PT_passes 46 = .ok (.iload_n 3, 1) := by decide +kernel
theorem d_PT_passes_47 : decode b_PT_passes 47 = .ok (.iconst 2, 1) := by decide +kernel
theorem d_PT_passes_48 : decode b_PT_passes 48 = .ok (.idiv, 1) := by decide +kernel
theorem d_PT_passes_49 : decode b_PT_passes 49 = .ok (.bipush 9, 2) := by decide +kernel
theorem d_PT_passes_51 : decode b_PT_passes 51 = .ok (.if_icmp .ge 5, 3) := by decide +kernel
theorem d_PT_passes_54 : decode b_PT_passes 54 = .ok (.iconst 1, 1) := by decide +kernel
theorem d_PT_passes_55 : decode b_PT_passes 55 = .ok (.ireturn, 1) := by decide +kernel
