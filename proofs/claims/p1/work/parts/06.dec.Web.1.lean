theorem d_Web_init_0 : decode b_Web_init 0 = .ok (.aload_n 0, 1) := by decide +kernel
theorem d_Web_init_1 : decode b_Web_init 1 = .ok (.invokespecial 3, 3) := by decide +kernel
theorem d_Web_init_4 : decode b_Web_init 4 = .ok (.aload_n 0, 1) := by decide +kernel
theorem d_Web_init_5 : decode b_Web_init 5 = .ok (.bipush 11, 2) := by decide +kernel
theorem d_Web_init_7 : decode b_Web_init 7 = .ok (.newarray .int, 2) := by decide +kernel
theorem d_Web_init_9 : decode b_Web_init 9 = .ok (.putfield 9, 3) := by decide +kernel
theorem d_Web_init_12 : decode b_Web_init 12 = .ok (.return_, 1) := by decide +kernel
theorem d_Web_clear_0 : decode b_Web_clear 0 = .ok (.aload_n 0, 1) := by decide +kernel
theorem d_Web_clear_1 : decode b_Web_clear 1 = .ok (.getfield 9, 3) := by decide +kernel
theorem d_Web_clear_4 : decode b_Web_clear 4 = .ok (.iconst 0, 1) := by decide +kernel
theorem d_Web_clear_5 : decode b_Web_clear 5 = .ok (.invokestatic 15, 3) := by decide +kernel
theorem d_Web_clear_8 : decode b_Web_clear 8 = .ok (.return_, 1) := by decide +kernel
theorem d_Web_degree_0 : decode b_Web_degree 0 = .ok (.aload_n 0, 1) := by decide +kernel
theorem d_Web_degree_1 : decode b_Web_degree 1 = .ok (.getfield 9, 3) := by decide +kernel
theorem d_Web_degree_4 : decode b_Web_degree 4 = .ok (.iload_n 1, 1) := by decide +kernel
theorem d_Web_degree_5 : decode b_Web_degree 5 = .ok (.iaload, 1) := by decide +kernel
theorem d_Web_degree_6 : decode b_Web_degree 6 = .ok (.invokestatic 21, 3) := by decide +kernel
theorem d_Web_degree_9 : decode b_Web_degree 9 = .ok (.ireturn, 1) := by decide +kernel
theorem d_Web_join_0 : decode b_Web_join 0 = .ok (.aload_n 0, 1) := by decide +kernel
theorem d_Web_join_1 : decode b_Web_join 1 = .ok (.getfield 9, 3) := by decide +kernel
theorem d_Web_join_4 : decode b_Web_join 4 = .ok (.iload_n 1, 1) := by decide +kernel
theorem d_Web_join_5 : decode b_Web_join 5 = .ok (.dup2, 1) := by decide +kernel
theorem d_Web_join_6 : decode b_Web_join 6 = .ok (.iaload, 1) := by decide +kernel
theorem d_Web_join_7 : decode b_Web_join 7 = .ok (.iconst 1, 1) := by decide +kernel
theorem d_Web_join_8 : decode b_Web_join 8 = .ok (.iload_n 2, 1) := by decide +kernel
theorem d_Web_join_9 : decode b_Web_join 9 = .ok (.ishl, 1) := by decide +kernel
theorem d_Web_join_10 : decode b_Web_join 10 = .ok (.ior, 1) := by decide +kernel
theorem d_Web_join_11 : decode b_Web_join 11 = .ok (.iastore, 1) := by decide +kernel
theorem d_Web_join_12 : decode b_Web_join 12 = .ok (.aload_n 0, 1) := by decide +kernel
theorem d_Web_join_13 : decode b_Web_join 13 = .ok (.getfield 9, 3) := by decide +kernel
theorem d_Web_join_16 : decode b_Web_join 16 = .ok (.iload_n 2, 1) := by decide +kernel
theorem d_Web_join_17 : decode b_Web_join 17 = .ok (.dup2, 1) := by decide +kernel
theorem d_Web_join_18 : decode b_Web_join 18 = .ok (.iaload, 1) := by decide +kernel
theorem d_Web_join_19 : decode b_Web_join 19 = .ok (.iconst 1, 1) := by decide +kernel
theorem d_Web_join_20 : decode b_Web_join 20 = .ok (.iload_n 1, 1) := by decide +kernel
theorem d_Web_join_21 : decode b_Web_join 21 = .ok (.ishl, 1) := by decide +kernel
theorem d_Web_join_22 : decode b_Web_join 22 = .ok (.ior, 1) := by decide +kernel
theorem d_Web_join_23 : decode b_Web_join 23 = .ok (.iastore, 1) := by decide +kernel
theorem d_Web_join_24 : decode b_Web_join 24 = .ok (.return_, 1) := by decide +kernel
theorem d_Web_neighbours_0 : decode b_Web_neighbours 0 = .ok (.aload_n 0, 1) := by decide +kernel
theorem d_Web_neighbours_1 : decode b_Web_neighbours 1 = .ok (.getfield 9, 3) := by decide +kernel
theorem d_Web_neighbours_4 : decode b_Web_neighbours 4 = .ok (.iload_n 1, 1) := by decide +kernel
theorem d_Web_neighbours_5 : decode b_Web_neighbours 5 = .ok (.iaload, 1) := by decide +kernel
theorem d_Web_neighbours_6 : decode b_Web_neighbours 6 = .ok (.ireturn, 1) := by decide +kernel
