theorem d_Desk_touch_89 : decode b_Desk_touch 89 = .ok (.ireturn, 1) := by decide +kernel
theorem d_Desk_turn_0 : decode b_Desk_turn 0 = .ok (.aload_n 0, 1) := by decide +kernel
theorem d_Desk_turn_1 : decode b_Desk_turn 1 = .ok (.getfield 9, 3) := by decide +kernel
theorem d_Desk_turn_4 : decode b_Desk_turn 4 = .ok (.iload_n 2, 1) := by decide +kernel
theorem d_Desk_turn_5 : decode b_Desk_turn 5 = .ok (.iaload, 1) := by decide +kernel
theorem d_Desk_turn_6 : decode b_Desk_turn 6 = .ok (.aload_n 0, 1) := by decide +kernel
theorem d_Desk_turn_7 : decode b_Desk_turn 7 = .ok (.getfield 9, 3) := by decide +kernel
theorem d_Desk_turn_10 : decode b_Desk_turn 10 = .ok (.iload_n 1, 1) := by decide +kernel
theorem d_Desk_turn_11 : decode b_Desk_turn 11 = .ok (.iaload, 1) := by decide +kernel
theorem d_Desk_turn_12 : decode b_Desk_turn 12 = .ok (.isub, 1) := by decide +kernel
theorem d_Desk_turn_13 : decode b_Desk_turn 13 = .ok (.aload_n 0, 1) := by decide +kernel
theorem d_Desk_turn_14 : decode b_Desk_turn 14 = .ok (.getfield 15, 3) := by decide +kernel
theorem d_Desk_turn_17 : decode b_Desk_turn 17 = .ok (.iload_n 3, 1) := by decide +kernel
theorem d_Desk_turn_18 : decode b_Desk_turn 18 = .ok (.iaload, 1) := by decide +kernel
theorem d_Desk_turn_19 : decode b_Desk_turn 19 = .ok (.aload_n 0, 1) := by decide +kernel
theorem d_Desk_turn_20 : decode b_Desk_turn 20 = .ok (.getfield 15, 3) := by decide +kernel
theorem d_Desk_turn_23 : decode b_Desk_turn 23 = .ok (.iload_n 1, 1) := by decide +kernel
theorem d_Desk_turn_24 : decode b_Desk_turn 24 = .ok (.iaload, 1) := by decide +kernel
theorem d_Desk_turn_25 : decode b_Desk_turn 25 = .ok (.isub, 1) := by decide +kernel
theorem d_Desk_turn_26 : decode b_Desk_turn 26 = .ok (.imul, 1) := by decide +kernel
theorem d_Desk_turn_27 : decode b_Desk_turn 27 = .ok (.aload_n 0, 1) := by decide +kernel
theorem d_Desk_turn_28 : decode b_Desk_turn 28 = .ok (.getfield 15, 3) := by decide +kernel
theorem d_Desk_turn_31 : decode b_Desk_turn 31 = .ok (.iload_n 2, 1) := by decide +kernel
theorem d_Desk_turn_32 : decode b_Desk_turn 32 = .ok (.iaload, 1) := by decide +kernel
theorem d_Desk_turn_33 : decode b_Desk_turn 33 = .ok (.aload_n 0, 1) := by decide +kernel
theorem d_Desk_turn_34 : decode b_Desk_turn 34 = .ok (.getfield 15, 3) := by decide +kernel
theorem d_Desk_turn_37 : decode b_Desk_turn 37 = .ok (.iload_n 1, 1) := by decide +kernel
theorem d_Desk_turn_38 : decode b_Desk_turn 38 = .ok (.iaload, 1) := by decide +kernel
theorem d_Desk_turn_39 : decode b_Desk_turn 39 = .ok (.isub, 1) := by decide +kernel
theorem d_Desk_turn_40 : decode b_Desk_turn 40 = .ok (.aload_n 0, 1) := by decide +kernel
theorem d_Desk_turn_41 : decode b_Desk_turn 41 = .ok (.getfield 9, 3) := by decide +kernel
theorem d_Desk_turn_44 : decode b_Desk_turn 44 = .ok (.iload_n 3, 1) := by decide +kernel
theorem d_Desk_turn_45 : decode b_Desk_turn 45 = .ok (.iaload, 1) := by decide +kernel
theorem d_Desk_turn_46 : decode b_Desk_turn 46 = .ok (.aload_n 0, 1) := by decide +kernel
theorem d_Desk_turn_47 : decode b_Desk_turn 47 = .ok (.getfield 9, 3) := by decide +kernel
theorem d_Desk_turn_50 : decode b_Desk_turn 50 = .ok (.iload_n 1, 1) := by decide +kernel
theorem d_Desk_turn_51 : decode b_Desk_turn 51 = .ok (.iaload, 1) := by decide +kernel
theorem d_Desk_turn_52 : decode b_Desk_turn 52 = .ok (.isub, 1) := by decide +kernel
theorem d_Desk_turn_53 : decode b_Desk_turn 53 = .ok (.imul, 1) := by decide +kernel
theorem d_Desk_turn_54 : decode b_Desk_turn 54 = .ok (.isub, 1) := by decide +kernel
theorem d_Desk_turn_55 : decode b_Desk_turn 55 = .ok (.ireturn, 1) := by decide +kernel
theorem d_Desk_upward_0 : decode b_Desk_upward 0 = .ok (.aload_n 0, 1) := by decide +kernel
theorem d_Desk_upward_1 : decode b_Desk_upward 1 = .ok (.getfield 15, 3) := by decide +kernel
theorem d_Desk_upward_4 : decode b_Desk_upward 4 = .ok (.iload_n 1, 1) := by decide +kernel
theorem d_Desk_upward_5 : decode b_Desk_upward 5 = .ok (.iaload, 1) := by decide +kernel
theorem d_Desk_upward_6 : decode b_Desk_upward 6 = .ok (.ireturn, 1) := by decide +kernel
