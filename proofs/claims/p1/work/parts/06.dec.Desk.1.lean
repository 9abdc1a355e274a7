theorem d_Desk_init_0 : decode b_Desk_init 0 = .ok (.aload_n 0, 1) := by decide +kernel
theorem d_Desk_init_1 : decode b_Desk_init 1 = .ok (.invokespecial 3, 3) := by decide +kernel
theorem d_Desk_init_4 : decode b_Desk_init 4 = .ok (.aload_n 0, 1) := by decide +kernel
theorem d_Desk_init_5 : decode b_Desk_init 5 = .ok (.bipush 10, 2) := by decide +kernel
theorem d_Desk_init_7 : decode b_Desk_init 7 = .ok (.newarray .int, 2) := by decide +kernel
theorem d_Desk_init_9 : decode b_Desk_init 9 = .ok (.putfield 9, 3) := by decide +kernel
theorem d_Desk_init_12 : decode b_Desk_init 12 = .ok (.aload_n 0, 1) := by decide +kernel
theorem d_Desk_init_13 : decode b_Desk_init 13 = .ok (.bipush 10, 2) := by decide +kernel
theorem d_Desk_init_15 : decode b_Desk_init 15 = .ok (.newarray .int, 2) := by decide +kernel
theorem d_Desk_init_17 : decode b_Desk_init 17 = .ok (.putfield 15, 3) := by decide +kernel
theorem d_Desk_init_20 : decode b_Desk_init 20 = .ok (.return_, 1) := by decide +kernel
theorem d_Desk_across_0 : decode b_Desk_across 0 = .ok (.aload_n 0, 1) := by decide +kernel
theorem d_Desk_across_1 : decode b_Desk_across 1 = .ok (.getfield 9, 3) := by decide +kernel
theorem d_Desk_across_4 : decode b_Desk_across 4 = .ok (.iload_n 1, 1) := by decide +kernel
theorem d_Desk_across_5 : decode b_Desk_across 5 = .ok (.iaload, 1) := by decide +kernel
theorem d_Desk_across_6 : decode b_Desk_across 6 = .ok (.ireturn, 1) := by decide +kernel
theorem d_Desk_put_0 : decode b_Desk_put 0 = .ok (.aload_n 0, 1) := by decide +kernel
theorem d_Desk_put_1 : decode b_Desk_put 1 = .ok (.getfield 9, 3) := by decide +kernel
theorem d_Desk_put_4 : decode b_Desk_put 4 = .ok (.iload_n 1, 1) := by decide +kernel
theorem d_Desk_put_5 : decode b_Desk_put 5 = .ok (.iload_n 2, 1) := by decide +kernel
theorem d_Desk_put_6 : decode b_Desk_put 6 = .ok (.iastore, 1) := by decide +kernel
theorem d_Desk_put_7 : decode b_Desk_put 7 = .ok (.aload_n 0, 1) := by decide +kernel
theorem d_Desk_put_8 : decode b_Desk_put 8 = .ok (.getfield 15, 3) := by decide +kernel
theorem d_Desk_put_11 : decode b_Desk_put 11 = .ok (.iload_n 1, 1) := by decide +kernel
theorem d_Desk_put_12 : decode b_Desk_put 12 = .ok (.iload_n 3, 1) := by decide +kernel
theorem d_Desk_put_13 : decode b_Desk_put 13 = .ok (.iastore, 1) := by decide +kernel
theorem d_Desk_put_14 : decode b_Desk_put 14 = .ok (.return_, 1) := by decide +kernel
theorem d_Desk_upward_0 : decode b_Desk_upward 0 = .ok (.aload_n 0, 1) := by decide +kernel
theorem d_Desk_upward_1 : decode b_Desk_upward 1 = .ok (.getfield 15, 3) := by decide +kernel
theorem d_Desk_upward_4 : decode b_Desk_upward 4 = .ok (.iload_n 1, 1) := by decide +kernel
theorem d_Desk_upward_5 : decode b_Desk_upward 5 = .ok (.iaload, 1) := by decide +kernel
theorem d_Desk_upward_6 : decode b_Desk_upward 6 = .ok (.ireturn, 1) := by decide +kernel
