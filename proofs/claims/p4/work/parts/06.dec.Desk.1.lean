theorem d_Desk_init_0 : decode b_Desk_init 0 = .ok (.aload_n 0, 1) := by decide +kernel
theorem d_Desk_init_1 : decode b_Desk_init 1 = .ok (.invokespecial 3, 3) := by decide +kernel
theorem d_Desk_init_4 : decode b_Desk_init 4 = .ok (.aload_n 0, 1) := by decide +kernel
theorem d_Desk_init_5 : decode b_Desk_init 5 = .ok (.bipush 10, 2) := by decide +kernel
theorem d_Desk_init_7 : decode b_Desk_init 7 = .ok (.newarray .int, 2) := by decide +kernel
theorem d_Desk_init_9 : decode b_Desk_init 9 = .ok (.putfield 9, 3) := by decide +kernel
theorem d_Desk_init_12 : decode b_Desk_init 12 = .ok (.aload_n 0, 1) := by decide +kernel
theorem d_Desk_init_13 : decode b_Desk_init 13 = .ok (.bipush 10, 2) := by decide +kernel
theorem d_Desk_init_15 : decode b_Desk_init 15 = .ok (.newarray .int, 2) := by decide +kernel
theorem d_Desk_init_17 : decode b_Desk_init 17 = .ok (.putfield 15, 3) := by decide +kernel
theorem d_Desk_init_20 : decode b_Desk_init 20 = .ok (.return_, 1) := by decide +kernel
