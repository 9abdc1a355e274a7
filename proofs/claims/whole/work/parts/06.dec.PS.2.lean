theorem d_PS_wrongMeetings_20 : decode b_PS_wrongMeetings 20 = .ok (.aload_n 0, 1) := by decide +kernel
theorem d_PS_wrongMeetings_21 : decode b_PS_wrongMeetings 21 = .ok (.getfield 48, 3) := by decide +kernel
theorem d_PS_wrongMeetings_24 : decode b_PS_wrongMeetings 24 = .ok (.iload_n 2, 1) := by decide +kernel
theorem d_PS_wrongMeetings_25 : decode b_PS_wrongMeetings 25 = .ok (.invokestatic 62, 3) := by decide +kernel
theorem d_PS_wrongMeetings_28 : decode b_PS_wrongMeetings 28 = .ok (.ifCond .eq 26, 3) := by decide +kernel
theorem d_PS_wrongMeetings_54 : decode b_PS_wrongMeetings 54 = .ok (.iinc 3 1, 3) := by decide +kernel
theorem d_PS_wrongMeetings_57 : decode b_PS_wrongMeetings 57 = .ok (.goto (-43), 3) := by decide +kernel
theorem d_PS_wrongMeetings_60 : decode b_PS_wrongMeetings 60 = .ok (.iinc 2 1, 3) := by decide +kernel
theorem d_PS_wrongMeetings_63 : decode b_PS_wrongMeetings 63 = .ok (.goto (-59), 3) := by decide +kernel
theorem d_PS_wrongMeetings_66 : decode b_PS_wrongMeetings 66 = .ok (.iload_n 1, 1) := by decide +kernel
theorem d_PS_wrongMeetings_67 : decode b_PS_wrongMeetings 67 = .ok (.ireturn, 1) := by decide +kernel
