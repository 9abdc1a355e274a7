theorem d_Mod_wrongNodes_1 : decode b_Mod_wrongNodes 1 = .ok (.istore_n 1, 1) := by decide +kernel
theorem d_Mod_wrongNodes_2 : decode b_Mod_wrongNodes 2 = .ok (.iconst 0, 1) := by decide +kernel
theorem d_Mod_wrongNodes_3 : decode b_Mod_wrongNodes 3 = .ok (.istore_n 2, 1) := by decide +kernel
theorem d_Mod_wrongNodes_4 : decode b_Mod_wrongNodes 4 = .ok (.iload_n 2, 1) := by decide +kernel
theorem d_Mod_wrongNodes_5 : decode b_Mod_wrongNodes 5 = .ok (.bipush 10, 2) := by decide +kernel
theorem d_Mod_wrongNodes_7 : decode b_Mod_wrongNodes 7 = .ok (.if_icmp .ge 34, 3) := by decide +kernel
theorem d_Mod_wrongNodes_10 : decode b_Mod_wrongNodes 10 = .ok (.aload_n 0, 1) := by decide +kernel
theorem d_Mod_wrongNodes_11 : decode b_Mod_wrongNodes 11 = .ok (.getfield 7, 3) := by decide +kernel
theorem d_Mod_wrongNodes_14 : decode b_Mod_wrongNodes 14 = .ok (.iload_n 2, 1) := by decide +kernel
theorem d_Mod_wrongNodes_15 : decode b_Mod_wrongNodes 15 = .ok (.baload, 1) := by decide +kernel
theorem d_Mod_wrongNodes_16 : decode b_Mod_wrongNodes 16 = .ok (.ifCond .eq 17, 3) := by decide +kernel
theorem d_Mod_wrongNodes_33 : decode b_Mod_wrongNodes 33 = .ok (.iload_n 1, 1) := by decide +kernel
theorem d_Mod_wrongNodes_34 : decode b_Mod_wrongNodes 34 = .ok (.istore_n 1, 1) := by decide +kernel
theorem d_Mod_wrongNodes_35 : decode b_Mod_wrongNodes 35 = .ok (.iinc 2 1, 3) := by decide +kernel
theorem d_Mod_wrongNodes_38 : decode b_Mod_wrongNodes 38 = .ok (.goto (-34), 3) := by decide +kernel
theorem d_Mod_wrongNodes_41 : decode b_Mod_wrongNodes 41 = .ok (.iload_n 1, 1) := by decide +kernel
theorem d_Mod_wrongNodes_42 : decode b_Mod_wrongNodes 42 = .ok (.ireturn, 1) := by decide +kernel
