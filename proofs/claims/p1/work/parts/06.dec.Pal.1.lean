theorem d_Pal_init_0 : decode b_Pal_init 0 = .ok (.aload_n 0, 1) := by decide +kernel
theorem d_Pal_init_1 : decode b_Pal_init 1 = .ok (.invokespecial 3, 3) := by decide +kernel
theorem d_Pal_init_4 : decode b_Pal_init 4 = .ok (.aload_n 0, 1) := by decide +kernel
theorem d_Pal_init_5 : decode b_Pal_init 5 = .ok (.bipush 10, 2) := by decide +kernel
theorem d_Pal_init_7 : decode b_Pal_init 7 = .ok (.newarray .int, 2) := by decide +kernel
theorem d_Pal_init_9 : decode b_Pal_init 9 = .ok (.putfield 9, 3) := by decide +kernel
theorem d_Pal_init_12 : decode b_Pal_init 12 = .ok (.return_, 1) := by decide +kernel
theorem d_Pal_paintFrom_0 : decode b_Pal_paintFrom 0 = .ok (.iload_n 2, 1) := by decide +kernel
theorem d_Pal_paintFrom_1 : decode b_Pal_paintFrom 1 = .ok (.bipush 10, 2) := by decide +kernel
theorem d_Pal_paintFrom_3 : decode b_Pal_paintFrom 3 = .ok (.if_icmp .lt 5, 3) := by decide +kernel
theorem d_Pal_paintFrom_6 : decode b_Pal_paintFrom 6 = .ok (.iconst 1, 1) := by decide +kernel
theorem d_Pal_paintFrom_7 : decode b_Pal_paintFrom 7 = .ok (.ireturn, 1) := by decide +kernel
theorem d_Pal_paintFrom_8 : decode b_Pal_paintFrom 8 = .ok (.aload_n 0, 1) := by decide +kernel
theorem d_Pal_paintFrom_9 : decode b_Pal_paintFrom 9 = .ok (.getfield 15, 3) := by decide +kernel
theorem d_Pal_paintFrom_12 : decode b_Pal_paintFrom 12 = .ok (.iload_n 2, 1) := by decide +kernel
theorem d_Pal_paintFrom_13 : decode b_Pal_paintFrom 13 = .ok (.invokestatic 26, 3) := by decide +kernel
theorem d_Pal_paintFrom_16 : decode b_Pal_paintFrom 16 = .ok (.ifCond .ne 13, 3) := by decide +kernel
theorem d_Pal_paintFrom_19 : decode b_Pal_paintFrom 19 = .ok (.aload_n 0, 1) := by decide +kernel
theorem d_Pal_paintFrom_20 : decode b_Pal_paintFrom 20 = .ok (.aload_n 1, 1) := by decide +kernel
theorem d_Pal_paintFrom_21 : decode b_Pal_paintFrom 21 = .ok (.iload_n 2, 1) := by decide +kernel
theorem d_Pal_paintFrom_22 : decode b_Pal_paintFrom 22 = .ok (.iconst 1, 1) := by decide +kernel
theorem d_Pal_paintFrom_23 : decode b_Pal_paintFrom 23 = .ok (.iadd, 1) := by decide +kernel
theorem d_Pal_paintFrom_24 : decode b_Pal_paintFrom 24 = .ok (.iload_n 3, 1) := by decide +kernel
theorem d_Pal_paintFrom_25 : decode b_Pal_paintFrom 25 = .ok (.invokevirtual 22, 3) := by decide +kernel
theorem d_Pal_paintFrom_28 : decode b_Pal_paintFrom 28 = .ok (.ireturn, 1) := by decide +kernel
theorem d_Pal_paintLeast_0 : decode b_Pal_paintLeast 0 = .ok (.aload_n 0, 1) := by decide +kernel
theorem d_Pal_paintLeast_1 : decode b_Pal_paintLeast 1 = .ok (.iload_n 2, 1) := by decide +kernel
theorem d_Pal_paintLeast_2 : decode b_Pal_paintLeast 2 = .ok (.putfield 15, 3) := by decide +kernel
theorem d_Pal_paintLeast_5 : decode b_Pal_paintLeast 5 = .ok (.iconst 0, 1) := by decide +kernel
theorem d_Pal_paintLeast_6 : decode b_Pal_paintLeast 6 = .ok (.istore_n 3, 1) := by decide +kernel
theorem d_Pal_paintLeast_7 : decode b_Pal_paintLeast 7 = .ok (.iload_n 3, 1) := by decide +kernel
theorem d_Pal_paintLeast_8 : decode b_Pal_paintLeast 8 = .ok (.bipush 10, 2) := by decide +kernel
theorem d_Pal_paintLeast_10 : decode b_Pal_paintLeast 10 = .ok (.if_icmp .gt 26, 3) := by decide +kernel
theorem d_Pal_paintLeast_13 : decode b_Pal_paintLeast 13 = .ok (.aload_n 0, 1) := by decide +kernel
theorem d_Pal_paintLeast_14 : decode b_Pal_paintLeast 14 = .ok (.iload_n 3, 1) := by decide +kernel
theorem d_Pal_paintLeast_15 : decode b_Pal_paintLeast 15 = .ok (.putfield 19, 3) := by decide +kernel
theorem d_Pal_paintLeast_18 : decode b_Pal_paintLeast 18 = .ok (.aload_n 0, 1) := by decide +kernel
theorem d_Pal_paintLeast_19 : decode b_Pal_paintLeast 19 = .ok (.aload_n 1, 1) := by decide +kernel
theorem d_Pal_paintLeast_20 : decode b_Pal_paintLeast 20 = .ok (.iconst 0, 1) := by decide +kernel
theorem d_Pal_paintLeast_21 : decode b_Pal_paintLeast 21 = .ok (.iconst 0, 1) := by decide +kernel
theorem d_Pal_paintLeast_22 : decode b_Pal_paintLeast 22 = .ok (.invokevirtual 22, 3) := by decide +kernel
theorem d_Pal_paintLeast_25 : decode b_Pal_paintLeast 25 = .ok (.ifCond .eq 5, 3) := by decide +kernel
theorem d_Pal_paintLeast_28 : decode b_Pal_paintLeast 28 = .ok (.iload_n 3, 1) := by decide +kernel
theorem d_Pal_paintLeast_29 : decode b_Pal_paintLeast 29 = .ok (.ireturn, 1) := by decide +kernel
