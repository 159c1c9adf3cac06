/-! decode rows (printed by my own program) -/
theorem d_L_cycles_0 : decode c_L_cycles 0 = .ok (.aload_n 2, 1) := by decide +kernel
theorem d_L_cycles_1 : decode c_L_cycles 1 = .ok (.iconst 0, 1) := by decide +kernel
theorem d_L_cycles_2 : decode c_L_cycles 2 = .ok (.aload_n 0, 1) := by decide +kernel
theorem d_L_cycles_3 : decode c_L_cycles 3 = .ok (.iload_n 1, 1) := by decide +kernel
theorem d_L_cycles_4 : decode c_L_cycles 4 = .ok (.invokevirtual 7, 3) := by decide +kernel
theorem d_L_cycles_7 : decode c_L_cycles 7 = .ok (.i2l, 1) := by decide +kernel
theorem d_L_cycles_8 : decode c_L_cycles 8 = .ok (.lastore, 1) := by decide +kernel
theorem d_L_cycles_9 : decode c_L_cycles 9 = .ok (.goto 6, 3) := by decide +kernel
theorem d_L_cycles_12 : decode c_L_cycles 12 = .ok (.astore_n 3, 1) := by decide +kernel
theorem d_L_cycles_13 : decode c_L_cycles 13 = .ok (.iconst 1, 1) := by decide +kernel
theorem d_L_cycles_14 : decode c_L_cycles 14 = .ok (.ireturn, 1) := by decide +kernel
theorem d_L_cycles_15 : decode c_L_cycles 15 = .ok (.iconst 0, 1) := by decide +kernel
theorem d_L_cycles_16 : decode c_L_cycles 16 = .ok (.ireturn, 1) := by decide +kernel
theorem d_L_pin_0 : decode c_L_pin 0 = .ok (.aload_n 3, 1) := by decide +kernel
theorem d_L_pin_1 : decode c_L_pin 1 = .ok (.iconst 0, 1) := by decide +kernel
theorem d_L_pin_2 : decode c_L_pin 2 = .ok (.aload_n 0, 1) := by decide +kernel
theorem d_L_pin_3 : decode c_L_pin 3 = .ok (.iload_n 1, 1) := by decide +kernel
theorem d_L_pin_4 : decode c_L_pin 4 = .ok (.iload_n 2, 1) := by decide +kernel
theorem d_L_pin_5 : decode c_L_pin 5 = .ok (.invokevirtual 15, 3) := by decide +kernel
theorem d_L_pin_8 : decode c_L_pin 8 = .ok (.ifCond .eq 7, 3) := by decide +kernel
theorem d_L_pin_11 : decode c_L_pin 11 = .ok (.lconst 1, 1) := by decide +kernel
theorem d_L_pin_12 : decode c_L_pin 12 = .ok (.goto 4, 3) := by decide +kernel
theorem d_L_pin_15 : decode c_L_pin 15 = .ok (.lconst 0, 1) := by decide +kernel
theorem d_L_pin_16 : decode c_L_pin 16 = .ok (.lastore, 1) := by decide +kernel
theorem d_L_pin_17 : decode c_L_pin 17 = .ok (.goto 7, 3) := by decide +kernel
theorem d_L_pin_20 : decode c_L_pin 20 = .ok (.astore 4, 2) := by decide +kernel
theorem d_L_pin_22 : decode c_L_pin 22 = .ok (.iconst 1, 1) := by decide +kernel
theorem d_L_pin_23 : decode c_L_pin 23 = .ok (.ireturn, 1) := by decide +kernel
theorem d_L_pin_24 : decode c_L_pin 24 = .ok (.iconst 0, 1) := by decide +kernel
theorem d_L_pin_25 : decode c_L_pin 25 = .ok (.ireturn, 1) := by decide +kernel
theorem d_L_register_0 : decode c_L_register 0 = .ok (.aload_n 2, 1) := by decide +kernel
theorem d_L_register_1 : decode c_L_register 1 = .ok (.iconst 0, 1) := by decide +kernel
theorem d_L_register_2 : decode c_L_register 2 = .ok (.aload_n 0, 1) := by decide +kernel
theorem d_L_register_3 : decode c_L_register 3 = .ok (.iload_n 1, 1) := by decide +kernel
theorem d_L_register_4 : decode c_L_register 4 = .ok (.invokevirtual 21, 3) := by decide +kernel
theorem d_L_register_7 : decode c_L_register 7 = .ok (.i2l, 1) := by decide +kernel
theorem d_L_register_8 : decode c_L_register 8 = .ok (.lastore, 1) := by decide +kernel
theorem d_L_register_9 : decode c_L_register 9 = .ok (.goto 6, 3) := by decide +kernel
theorem d_L_register_12 : decode c_L_register 12 = .ok (.astore_n 3, 1) := by decide +kernel
theorem d_L_register_13 : decode c_L_register 13 = .ok (.iconst 1, 1) := by decide +kernel
theorem d_L_register_14 : decode c_L_register 14 = .ok (.ireturn, 1) := by decide +kernel
theorem d_L_register_15 : decode c_L_register 15 = .ok (.iconst 0, 1) := by decide +kernel
theorem d_L_register_16 : decode c_L_register 16 = .ok (.ireturn, 1) := by decide +kernel
theorem d_L_set_0 : decode c_L_set 0 = .ok (.aload_n 0, 1) := by decide +kernel
theorem d_L_set_1 : decode c_L_set 1 = .ok (.iload_n 1, 1) := by decide +kernel
theorem d_L_set_2 : decode c_L_set 2 = .ok (.iload_n 2, 1) := by decide +kernel
theorem d_L_set_3 : decode c_L_set 3 = .ok (.invokevirtual 24, 3) := by decide +kernel
theorem d_L_set_6 : decode c_L_set 6 = .ok (.goto 9, 3) := by decide +kernel
theorem d_L_set_9 : decode c_L_set 9 = .ok (.astore_n 3, 1) := by decide +kernel
theorem d_L_set_10 : decode c_L_set 10 = .ok (.iconst 1, 1) := by decide +kernel
theorem d_L_set_11 : decode c_L_set 11 = .ok (.ireturn, 1) := by decide +kernel
theorem d_L_set_12 : decode c_L_set 12 = .ok (.astore_n 3, 1) := by decide +kernel
theorem d_L_set_13 : decode c_L_set 13 = .ok (.iconst 2, 1) := by decide +kernel
theorem d_L_set_14 : decode c_L_set 14 = .ok (.ireturn, 1) := by decide +kernel
theorem d_L_set_15 : decode c_L_set 15 = .ok (.iconst 0, 1) := by decide +kernel
theorem d_L_set_16 : decode c_L_set 16 = .ok (.ireturn, 1) := by decide +kernel
