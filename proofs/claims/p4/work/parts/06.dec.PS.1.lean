theorem d_PS_init_0 : decode b_PS_init 0 = .ok (.aload_n 0, 1) := by decide +kernel
theorem d_PS_init_1 : decode b_PS_init 1 = .ok (.invokespecial 3, 3) := by decide +kernel
theorem d_PS_init_4 : decode b_PS_init 4 = .ok (.aload_n 0, 1) := by decide +kernel
theorem d_PS_init_5 : decode b_PS_init 5 = .ok (.bipush 24, 2) := by decide +kernel
theorem d_PS_init_7 : decode b_PS_init 7 = .ok (.newarray .int, 2) := by decide +kernel
theorem d_PS_init_9 : decode b_PS_init 9 = .ok (.putfield 9, 3) := by decide +kernel
theorem d_PS_init_12 : decode b_PS_init 12 = .ok (.aload_n 0, 1) := by decide +kernel
theorem d_PS_init_13 : decode b_PS_init 13 = .ok (.bipush 24, 2) := by decide +kernel
theorem d_PS_init_15 : decode b_PS_init 15 = .ok (.newarray .int, 2) := by decide +kernel
theorem d_PS_init_17 : decode b_PS_init 17 = .ok (.putfield 13, 3) := by decide +kernel
theorem d_PS_init_20 : decode b_PS_init 20 = .ok (.aload_n 0, 1) := by decide +kernel
theorem d_PS_init_21 : decode b_PS_init 21 = .ok (.new 16, 3) := by decide +kernel
theorem d_PS_init_24 : decode b_PS_init 24 = .ok (.dup, 1) := by decide +kernel
theorem d_PS_init_25 : decode b_PS_init 25 = .ok (.invokespecial 18, 3) := by decide +kernel
theorem d_PS_init_28 : decode b_PS_init 28 = .ok (.putfield 19, 3) := by decide +kernel
theorem d_PS_init_31 : decode b_PS_init 31 = .ok (.aload_n 0, 1) := by decide +kernel
theorem d_PS_init_32 : decode b_PS_init 32 = .ok (.new 23, 3) := by decide +kernel
theorem d_PS_init_35 : decode b_PS_init 35 = .ok (.dup, 1) := by decide +kernel
theorem d_PS_init_36 : decode b_PS_init 36 = .ok (.invokespecial 25, 3) := by decide +kernel
theorem d_PS_init_39 : decode b_PS_init 39 = .ok (.putfield 26, 3) := by decide +kernel
theorem d_PS_init_42 : decode b_PS_init 42 = .ok (.aload_n 0, 1) := by decide +kernel
theorem d_PS_init_43 : decode b_PS_init 43 = .ok (.new 30, 3) := by decide +kernel
theorem d_PS_init_46 : decode b_PS_init 46 = .ok (.dup, 1) := by decide +kernel
theorem d_PS_init_47 : decode b_PS_init 47 = .ok (.invokespecial 32, 3) := by decide +kernel
theorem d_PS_init_50 : decode b_PS_init 50 = .ok (.putfield 33, 3) := by decide +kernel
theorem d_PS_init_53 : decode b_PS_init 53 = .ok (.aload_n 0, 1) := by decide +kernel
theorem d_PS_init_54 : decode b_PS_init 54 = .ok (.new 37, 3) := by decide +kernel
theorem d_PS_init_57 : decode b_PS_init 57 = .ok (.dup, 1) := by decide +kernel
theorem d_PS_init_58 : decode b_PS_init 58 = .ok (.invokespecial 39, 3) := by decide +kernel
theorem d_PS_init_61 : decode b_PS_init 61 = .ok (.putfield 40, 3) := by decide +kernel
theorem d_PS_init_64 : decode b_PS_init 64 = .ok (.aload_n 0, 1) := by decide +kernel
theorem d_PS_init_65 : decode b_PS_init 65 = .ok (.iconst 0, 1) := by decide +kernel
theorem d_PS_init_66 : decode b_PS_init 66 = .ok (.putfield 44, 3) := by decide +kernel
theorem d_PS_init_69 : decode b_PS_init 69 = .ok (.aload_n 0, 1) := by decide +kernel
theorem d_PS_init_70 : decode b_PS_init 70 = .ok (.iconst 0, 1) := by decide +kernel
theorem d_PS_init_71 : decode b_PS_init 71 = .ok (.putfield 48, 3) := by decide +kernel
theorem d_PS_init_74 : decode b_PS_init 74 = .ok (.return_, 1) := by decide +kernel
theorem d_PS_has_0 : decode b_PS_has 0 = .ok (.iload_n 0, 1) := by decide +kernel
theorem d_PS_has_1 : decode b_PS_has 1 = .ok (.iload_n 1, 1) := by decide +kernel
theorem d_PS_has_2 : decode b_PS_has 2 = .ok (.ishr, 1) := by decide +kernel
theorem d_PS_has_3 : decode b_PS_has 3 = .ok (.iconst 1, 1) := by decide +kernel
theorem d_PS_has_4 : decode b_PS_has 4 = .ok (.iand, 1) := by decide +kernel
theorem d_PS_has_5 : decode b_PS_has 5 = .ok (.ifCond .eq 7, 3) := by decide +kernel
theorem d_PS_has_8 : decode b_PS_has 8 = .ok (.iconst 1, 1) := by decide +kernel
theorem d_PS_has_9 : decode b_PS_has 9 = .ok (.goto 4, 3) := by decide +kernel
theorem d_PS_has_12 : decode b_PS_has 12 = .ok (.iconst 0, 1) := by decide +kernel
theorem d_PS_has_13 : decode b_PS_has 13 = .ok (.ireturn, 1) := by decide +kernel
theorem d_PS_isNodeNumber_0 : decode b_PS_isNodeNumber 0 = .ok (.iload_n 0, 1) := by decide +kernel
theorem d_PS_isNodeNumber_1 : decode b_PS_isNodeNumber 1 = .ok (.ifCond .lt 13, 3) := by decide +kernel
theorem d_PS_isNodeNumber_4 : decode b_PS_isNodeNumber 4 = .ok (.iload_n 0, 1) := by decide +kernel
theorem d_PS_isNodeNumber_5 : decode b_PS_isNodeNumber 5 = .ok (.bipush 10, 2) := by decide +kernel
theorem d_PS_isNodeNumber_7 : decode b_PS_isNodeNumber 7 = .ok (.if_icmp .ge 7, 3) := by decide +kernel
theorem d_PS_isNodeNumber_10 : decode b_PS_isNodeNumber 10 = .ok (.iconst 1, 1) := by decide +kernel
theorem d_PS_isNodeNumber_11 : decode b_PS_isNodeNumber 11 = .ok (.goto 4, 3) := by decide +kernel
theorem d_PS_isNodeNumber_14 : decode b_PS_isNodeNumber 14 = .ok (.iconst 0, 1) := by decide +kernel
theorem d_PS_isNodeNumber_15 : decode b_PS_isNodeNumber 15 = .ok (.ireturn, 1) := by decide +kernel
theorem d_PS_lineIsThere_0 : decode b_PS_lineIsThere 0 = .ok (.iload_n 1, 1) := by decide +kernel
theorem d_PS_lineIsThere_1 : decode b_PS_lineIsThere 1 = .ok (.ifCond .lt 24, 3) := by decide +kernel
theorem d_PS_lineIsThere_4 : decode b_PS_lineIsThere 4 = .ok (.iload_n 1, 1) := by decide +kernel
theorem d_PS_lineIsThere_5 : decode b_PS_lineIsThere 5 = .ok (.bipush 24, 2) := by decide +kernel
theorem d_PS_lineIsThere_7 : decode b_PS_lineIsThere 7 = .ok (.if_icmp .ge 18, 3) := by decide +kernel
theorem d_PS_lineIsThere_10 : decode b_PS_lineIsThere 10 = .ok (.aload_n 0, 1) := by decide +kernel
theorem d_PS_lineIsThere_11 : decode b_PS_lineIsThere 11 = .ok (.getfield 48, 3) := by decide +kernel
theorem d_PS_lineIsThere_14 : decode b_PS_lineIsThere 14 = .ok (.iload_n 1, 1) := by decide +kernel
theorem d_PS_lineIsThere_15 : decode b_PS_lineIsThere 15 = .ok (.invokestatic 62, 3) := by decide +kernel
theorem d_PS_lineIsThere_18 : decode b_PS_lineIsThere 18 = .ok (.ifCond .eq 7, 3) := by decide +kernel
theorem d_PS_lineIsThere_21 : decode b_PS_lineIsThere 21 = .ok (.iconst 1, 1) := by decide +kernel
theorem d_PS_lineIsThere_22 : decode b_PS_lineIsThere 22 = .ok (.goto 4, 3) := by decide +kernel
theorem d_PS_lineIsThere_25 : decode b_PS_lineIsThere 25 = .ok (.iconst 0, 1) := by decide +kernel
theorem d_PS_lineIsThere_26 : decode b_PS_lineIsThere 26 = .ok (.ireturn, 1) := by decide +kernel
theorem d_PS_nodeIsThere_0 : decode b_PS_nodeIsThere 0 = .ok (.iload_n 1, 1) := by decide +kernel
theorem d_PS_nodeIsThere_1 : decode b_PS_nodeIsThere 1 = .ok (.invokestatic 51, 3) := by decide +kernel
theorem d_PS_nodeIsThere_4 : decode b_PS_nodeIsThere 4 = .ok (.ifCond .eq 18, 3) := by decide +kernel
theorem d_PS_nodeIsThere_7 : decode b_PS_nodeIsThere 7 = .ok (.aload_n 0, 1) := by decide +kernel
theorem d_PS_nodeIsThere_8 : decode b_PS_nodeIsThere 8 = .ok (.getfield 44, 3) := by decide +kernel
theorem d_PS_nodeIsThere_11 : decode b_PS_nodeIsThere 11 = .ok (.iload_n 1, 1) := by decide +kernel
theorem d_PS_nodeIsThere_12 : decode b_PS_nodeIsThere 12 = .ok (.invokestatic 62, 3) := by decide +kernel
theorem d_PS_nodeIsThere_15 : decode b_PS_nodeIsThere 15 = .ok (.ifCond .eq 7, 3) := by decide +kernel
theorem d_PS_nodeIsThere_18 : decode b_PS_nodeIsThere 18 = .ok (.iconst 1, 1) := by decide +kernel
theorem d_PS_nodeIsThere_19 : decode b_PS_nodeIsThere 19 = .ok (.goto 4, 3) := by decide +kernel
theorem d_PS_nodeIsThere_22 : decode b_PS_nodeIsThere 22 = .ok (.iconst 0, 1) := by decide +kernel
theorem d_PS_nodeIsThere_23 : decode b_PS_nodeIsThere 23 = .ok (.ireturn, 1) := by decide +kernel
