theorem d_Pal_init_0 : decode b_Pal_init 0 = .ok (.aload_n 0, 1) := by decide +kernel
theorem d_Pal_init_1 : decode b_Pal_init 1 = .ok (.invokespecial 3, 3) := by decide +kernel
theorem d_Pal_init_4 : decode b_Pal_init 4 = .ok (.aload_n 0, 1) := by decide +kernel
theorem d_Pal_init_5 : decode b_Pal_init 5 = .ok (.bipush 10, 2) := by decide +kernel
theorem d_Pal_init_7 : decode b_Pal_init 7 = .ok (.newarray .int, 2) := by decide +kernel
theorem d_Pal_init_9 : decode b_Pal_init 9 = .ok (.putfield 9, 3) := by decide +kernel
theorem d_Pal_init_12 : decode b_Pal_init 12 = .ok (.return_, 1) := by decide +kernel
