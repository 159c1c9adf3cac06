/-! decode rows (printed by my own program) -/
theorem d_M_init_0 : decode c_M_init 0 = .ok (.aload_n 0, 1) := by decide +kernel
theorem d_M_init_1 : decode c_M_init 1 = .ok (.invokespecial 1, 3) := by decide +kernel
theorem d_M_init_4 : decode c_M_init 4 = .ok (.aload_n 0, 1) := by decide +kernel
theorem d_M_init_5 : decode c_M_init 5 = .ok (.sipush 1024, 3) := by decide +kernel
theorem d_M_init_8 : decode c_M_init 8 = .ok (.newarray .int, 2) := by decide +kernel
theorem d_M_init_10 : decode c_M_init 10 = .ok (.putfield 7, 3) := by decide +kernel
theorem d_M_init_13 : decode c_M_init 13 = .ok (.aload_n 0, 1) := by decide +kernel
theorem d_M_init_14 : decode c_M_init 14 = .ok (.iconst 1, 1) := by decide +kernel
theorem d_M_init_15 : decode c_M_init 15 = .ok (.putfield 13, 3) := by decide +kernel
theorem d_M_init_18 : decode c_M_init 18 = .ok (.return_, 1) := by decide +kernel
theorem d_M_thrown_0 : decode c_M_thrown 0 = .ok (.aload_n 0, 1) := by decide +kernel
theorem d_M_thrown_1 : decode c_M_thrown 1 = .ok (.getfield 17, 3) := by decide +kernel
theorem d_M_thrown_4 : decode c_M_thrown 4 = .ok (.ireturn, 1) := by decide +kernel
theorem d_M_poke_0 : decode c_M_poke 0 = .ok (.aload_n 0, 1) := by decide +kernel
theorem d_M_poke_1 : decode c_M_poke 1 = .ok (.iconst 0, 1) := by decide +kernel
theorem d_M_poke_2 : decode c_M_poke 2 = .ok (.putfield 17, 3) := by decide +kernel
theorem d_M_poke_5 : decode c_M_poke 5 = .ok (.aload_n 0, 1) := by decide +kernel
theorem d_M_poke_6 : decode c_M_poke 6 = .ok (.getfield 7, 3) := by decide +kernel
theorem d_M_poke_9 : decode c_M_poke 9 = .ok (.iload_n 1, 1) := by decide +kernel
theorem d_M_poke_10 : decode c_M_poke 10 = .ok (.sipush 1023, 3) := by decide +kernel
theorem d_M_poke_13 : decode c_M_poke 13 = .ok (.iand, 1) := by decide +kernel
theorem d_M_poke_14 : decode c_M_poke 14 = .ok (.iaload, 1) := by decide +kernel
theorem d_M_poke_15 : decode c_M_poke 15 = .ok (.istore_n 3, 1) := by decide +kernel
theorem d_M_poke_16 : decode c_M_poke 16 = .ok (.aload_n 0, 1) := by decide +kernel
theorem d_M_poke_17 : decode c_M_poke 17 = .ok (.getfield 7, 3) := by decide +kernel
theorem d_M_poke_20 : decode c_M_poke 20 = .ok (.iload_n 1, 1) := by decide +kernel
theorem d_M_poke_21 : decode c_M_poke 21 = .ok (.sipush 1023, 3) := by decide +kernel
theorem d_M_poke_24 : decode c_M_poke 24 = .ok (.iand, 1) := by decide +kernel
theorem d_M_poke_25 : decode c_M_poke 25 = .ok (.iload_n 2, 1) := by decide +kernel
theorem d_M_poke_26 : decode c_M_poke 26 = .ok (.sipush 255, 3) := by decide +kernel
theorem d_M_poke_29 : decode c_M_poke 29 = .ok (.iand, 1) := by decide +kernel
theorem d_M_poke_30 : decode c_M_poke 30 = .ok (.iastore, 1) := by decide +kernel
theorem d_M_poke_31 : decode c_M_poke 31 = .ok (.iload_n 3, 1) := by decide +kernel
theorem d_M_poke_32 : decode c_M_poke 32 = .ok (.ireturn, 1) := by decide +kernel
theorem d_M_peek_0 : decode c_M_peek 0 = .ok (.aload_n 0, 1) := by decide +kernel
theorem d_M_peek_1 : decode c_M_peek 1 = .ok (.iconst 0, 1) := by decide +kernel
theorem d_M_peek_2 : decode c_M_peek 2 = .ok (.putfield 17, 3) := by decide +kernel
theorem d_M_peek_5 : decode c_M_peek 5 = .ok (.aload_n 0, 1) := by decide +kernel
theorem d_M_peek_6 : decode c_M_peek 6 = .ok (.getfield 7, 3) := by decide +kernel
theorem d_M_peek_9 : decode c_M_peek 9 = .ok (.iload_n 1, 1) := by decide +kernel
theorem d_M_peek_10 : decode c_M_peek 10 = .ok (.sipush 1023, 3) := by decide +kernel
theorem d_M_peek_13 : decode c_M_peek 13 = .ok (.iand, 1) := by decide +kernel
theorem d_M_peek_14 : decode c_M_peek 14 = .ok (.iaload, 1) := by decide +kernel
theorem d_M_peek_15 : decode c_M_peek 15 = .ok (.ireturn, 1) := by decide +kernel
theorem d_M_pin_0 : decode c_M_pin 0 = .ok (.aload_n 0, 1) := by decide +kernel
theorem d_M_pin_1 : decode c_M_pin 1 = .ok (.iload_n 1, 1) := by decide +kernel
theorem d_M_pin_2 : decode c_M_pin 2 = .ok (.ifCond .lt 8, 3) := by decide +kernel
theorem d_M_pin_5 : decode c_M_pin 5 = .ok (.iload_n 1, 1) := by decide +kernel
theorem d_M_pin_6 : decode c_M_pin 6 = .ok (.iconst 3, 1) := by decide +kernel
theorem d_M_pin_7 : decode c_M_pin 7 = .ok (.if_icmp .le 7, 3) := by decide +kernel
theorem d_M_pin_10 : decode c_M_pin 10 = .ok (.iconst 1, 1) := by decide +kernel
theorem d_M_pin_11 : decode c_M_pin 11 = .ok (.goto 4, 3) := by decide +kernel
theorem d_M_pin_14 : decode c_M_pin 14 = .ok (.iconst 0, 1) := by decide +kernel
theorem d_M_pin_15 : decode c_M_pin 15 = .ok (.putfield 17, 3) := by decide +kernel
theorem d_M_pin_18 : decode c_M_pin 18 = .ok (.aload_n 0, 1) := by decide +kernel
theorem d_M_pin_19 : decode c_M_pin 19 = .ok (.getfield 17, 3) := by decide +kernel
theorem d_M_pin_22 : decode c_M_pin 22 = .ok (.ifCond .eq 5, 3) := by decide +kernel
theorem d_M_pin_25 : decode c_M_pin 25 = .ok (.iconst 0, 1) := by decide +kernel
theorem d_M_pin_26 : decode c_M_pin 26 = .ok (.ireturn, 1) := by decide +kernel
theorem d_M_pin_27 : decode c_M_pin 27 = .ok (.iload_n 1, 1) := by decide +kernel
theorem d_M_pin_28 : decode c_M_pin 28 = .ok (.ifCond .ne 10, 3) := by decide +kernel
theorem d_M_pin_31 : decode c_M_pin 31 = .ok (.aload_n 0, 1) := by decide +kernel
theorem d_M_pin_32 : decode c_M_pin 32 = .ok (.getfield 28, 3) := by decide +kernel
theorem d_M_pin_35 : decode c_M_pin 35 = .ok (.goto 31, 3) := by decide +kernel
theorem d_M_pin_38 : decode c_M_pin 38 = .ok (.iload_n 1, 1) := by decide +kernel
theorem d_M_pin_39 : decode c_M_pin 39 = .ok (.iconst 1, 1) := by decide +kernel
theorem d_M_pin_40 : decode c_M_pin 40 = .ok (.if_icmp .ne 10, 3) := by decide +kernel
theorem d_M_pin_43 : decode c_M_pin 43 = .ok (.aload_n 0, 1) := by decide +kernel
theorem d_M_pin_44 : decode c_M_pin 44 = .ok (.getfield 31, 3) := by decide +kernel
theorem d_M_pin_47 : decode c_M_pin 47 = .ok (.goto 19, 3) := by decide +kernel
theorem d_M_pin_50 : decode c_M_pin 50 = .ok (.iload_n 1, 1) := by decide +kernel
theorem d_M_pin_51 : decode c_M_pin 51 = .ok (.iconst 2, 1) := by decide +kernel
theorem d_M_pin_52 : decode c_M_pin 52 = .ok (.if_icmp .ne 10, 3) := by decide +kernel
theorem d_M_pin_55 : decode c_M_pin 55 = .ok (.aload_n 0, 1) := by decide +kernel
theorem d_M_pin_56 : decode c_M_pin 56 = .ok (.getfield 13, 3) := by decide +kernel
theorem d_M_pin_59 : decode c_M_pin 59 = .ok (.goto 7, 3) := by decide +kernel
theorem d_M_pin_62 : decode c_M_pin 62 = .ok (.aload_n 0, 1) := by decide +kernel
theorem d_M_pin_63 : decode c_M_pin 63 = .ok (.getfield 34, 3) := by decide +kernel
theorem d_M_pin_66 : decode c_M_pin 66 = .ok (.istore_n 3, 1) := by decide +kernel
theorem d_M_pin_67 : decode c_M_pin 67 = .ok (.iload_n 2, 1) := by decide +kernel
theorem d_M_pin_68 : decode c_M_pin 68 = .ok (.ifCond .eq 11, 3) := by decide +kernel
theorem d_M_pin_71 : decode c_M_pin 71 = .ok (.iload_n 3, 1) := by decide +kernel
theorem d_M_pin_72 : decode c_M_pin 72 = .ok (.ifCond .ne 7, 3) := by decide +kernel
theorem d_M_pin_75 : decode c_M_pin 75 = .ok (.iconst 1, 1) := by decide +kernel
theorem d_M_pin_76 : decode c_M_pin 76 = .ok (.goto 4, 3) := by decide +kernel
theorem d_M_pin_79 : decode c_M_pin 79 = .ok (.iconst 0, 1) := by decide +kernel
theorem d_M_pin_80 : decode c_M_pin 80 = .ok (.istore 4, 2) := by decide +kernel
theorem d_M_pin_82 : decode c_M_pin 82 = .ok (.iload_n 1, 1) := by decide +kernel
theorem d_M_pin_83 : decode c_M_pin 83 = .ok (.ifCond .ne 32, 3) := by decide +kernel
theorem d_M_pin_86 : decode c_M_pin 86 = .ok (.aload_n 0, 1) := by decide +kernel
theorem d_M_pin_87 : decode c_M_pin 87 = .ok (.iload_n 2, 1) := by decide +kernel
theorem d_M_pin_88 : decode c_M_pin 88 = .ok (.putfield 28, 3) := by decide +kernel
theorem d_M_pin_91 : decode c_M_pin 91 = .ok (.aload_n 0, 1) := by decide +kernel
theorem d_M_pin_92 : decode c_M_pin 92 = .ok (.aload_n 0, 1) := by decide +kernel
theorem d_M_pin_93 : decode c_M_pin 93 = .ok (.getfield 37, 3) := by decide +kernel
theorem d_M_pin_96 : decode c_M_pin 96 = .ok (.ifCond .ne 8, 3) := by decide +kernel
theorem d_M_pin_99 : decode c_M_pin 99 = .ok (.iload 4, 2) := by decide +kernel
theorem d_M_pin_101 : decode c_M_pin 101 = .ok (.ifCond .eq 7, 3) := by decide +kernel
theorem d_M_pin_104 : decode c_M_pin 104 = .ok (.iconst 1, 1) := by decide +kernel
theorem d_M_pin_105 : decode c_M_pin 105 = .ok (.goto 4, 3) := by decide +kernel
theorem d_M_pin_108 : decode c_M_pin 108 = .ok (.iconst 0, 1) := by decide +kernel
theorem d_M_pin_109 : decode c_M_pin 109 = .ok (.putfield 37, 3) := by decide +kernel
theorem d_M_pin_112 : decode c_M_pin 112 = .ok (.goto 57, 3) := by decide +kernel
theorem d_M_pin_115 : decode c_M_pin 115 = .ok (.iload_n 1, 1) := by decide +kernel
theorem d_M_pin_116 : decode c_M_pin 116 = .ok (.iconst 1, 1) := by decide +kernel
theorem d_M_pin_117 : decode c_M_pin 117 = .ok (.if_icmp .ne 11, 3) := by decide +kernel
theorem d_M_pin_120 : decode c_M_pin 120 = .ok (.aload_n 0, 1) := by decide +kernel
theorem d_M_pin_121 : decode c_M_pin 121 = .ok (.iload_n 2, 1) := by decide +kernel
theorem d_M_pin_122 : decode c_M_pin 122 = .ok (.putfield 31, 3) := by decide +kernel
theorem d_M_pin_125 : decode c_M_pin 125 = .ok (.goto 44, 3) := by decide +kernel
theorem d_M_pin_128 : decode c_M_pin 128 = .ok (.iload_n 1, 1) := by decide +kernel
theorem d_M_pin_129 : decode c_M_pin 129 = .ok (.iconst 2, 1) := by decide +kernel
theorem d_M_pin_130 : decode c_M_pin 130 = .ok (.if_icmp .ne 11, 3) := by decide +kernel
theorem d_M_pin_133 : decode c_M_pin 133 = .ok (.aload_n 0, 1) := by decide +kernel
theorem d_M_pin_134 : decode c_M_pin 134 = .ok (.iload_n 2, 1) := by decide +kernel
theorem d_M_pin_135 : decode c_M_pin 135 = .ok (.putfield 13, 3) := by decide +kernel
theorem d_M_pin_138 : decode c_M_pin 138 = .ok (.goto 31, 3) := by decide +kernel
theorem d_M_pin_141 : decode c_M_pin 141 = .ok (.aload_n 0, 1) := by decide +kernel
theorem d_M_pin_142 : decode c_M_pin 142 = .ok (.iload_n 2, 1) := by decide +kernel
theorem d_M_pin_143 : decode c_M_pin 143 = .ok (.putfield 34, 3) := by decide +kernel
theorem d_M_pin_146 : decode c_M_pin 146 = .ok (.aload_n 0, 1) := by decide +kernel
theorem d_M_pin_147 : decode c_M_pin 147 = .ok (.iload 4, 2) := by decide +kernel
theorem d_M_pin_149 : decode c_M_pin 149 = .ok (.ifCond .eq 13, 3) := by decide +kernel
theorem d_M_pin_152 : decode c_M_pin 152 = .ok (.aload_n 0, 1) := by decide +kernel
theorem d_M_pin_153 : decode c_M_pin 153 = .ok (.getfield 21, 3) := by decide +kernel
theorem d_M_pin_156 : decode c_M_pin 156 = .ok (.bipush 64, 2) := by decide +kernel
theorem d_M_pin_158 : decode c_M_pin 158 = .ok (.ior, 1) := by decide +kernel
theorem d_M_pin_159 : decode c_M_pin 159 = .ok (.goto 7, 3) := by decide +kernel
theorem d_M_pin_162 : decode c_M_pin 162 = .ok (.aload_n 0, 1) := by decide +kernel
theorem d_M_pin_163 : decode c_M_pin 163 = .ok (.getfield 21, 3) := by decide +kernel
theorem d_M_pin_166 : decode c_M_pin 166 = .ok (.putfield 21, 3) := by decide +kernel
theorem d_M_pin_169 : decode c_M_pin 169 = .ok (.iload_n 3, 1) := by decide +kernel
theorem d_M_pin_170 : decode c_M_pin 170 = .ok (.ireturn, 1) := by decide +kernel
theorem d_M_reset_0 : decode c_M_reset 0 = .ok (.aload_n 0, 1) := by decide +kernel
theorem d_M_reset_1 : decode c_M_reset 1 = .ok (.iconst 0, 1) := by decide +kernel
theorem d_M_reset_2 : decode c_M_reset 2 = .ok (.putfield 17, 3) := by decide +kernel
theorem d_M_reset_5 : decode c_M_reset 5 = .ok (.aload_n 0, 1) := by decide +kernel
theorem d_M_reset_6 : decode c_M_reset 6 = .ok (.iconst 2, 1) := by decide +kernel
theorem d_M_reset_7 : decode c_M_reset 7 = .ok (.putfield 40, 3) := by decide +kernel
theorem d_M_reset_10 : decode c_M_reset 10 = .ok (.aload_n 0, 1) := by decide +kernel
theorem d_M_reset_11 : decode c_M_reset 11 = .ok (.iconst 0, 1) := by decide +kernel
theorem d_M_reset_12 : decode c_M_reset 12 = .ok (.putfield 43, 3) := by decide +kernel
theorem d_M_reset_15 : decode c_M_reset 15 = .ok (.aload_n 0, 1) := by decide +kernel
theorem d_M_reset_16 : decode c_M_reset 16 = .ok (.iconst 0, 1) := by decide +kernel
theorem d_M_reset_17 : decode c_M_reset 17 = .ok (.putfield 46, 3) := by decide +kernel
theorem d_M_reset_20 : decode c_M_reset 20 = .ok (.aload_n 0, 1) := by decide +kernel
theorem d_M_reset_21 : decode c_M_reset 21 = .ok (.iconst 0, 1) := by decide +kernel
theorem d_M_reset_22 : decode c_M_reset 22 = .ok (.putfield 37, 3) := by decide +kernel
theorem d_M_reset_25 : decode c_M_reset 25 = .ok (.return_, 1) := by decide +kernel
theorem d_M_cycle_0 : decode c_M_cycle 0 = .ok (.aload_n 0, 1) := by decide +kernel
theorem d_M_cycle_1 : decode c_M_cycle 1 = .ok (.iconst 0, 1) := by decide +kernel
theorem d_M_cycle_2 : decode c_M_cycle 2 = .ok (.putfield 17, 3) := by decide +kernel
theorem d_M_cycle_5 : decode c_M_cycle 5 = .ok (.aload_n 0, 1) := by decide +kernel
theorem d_M_cycle_6 : decode c_M_cycle 6 = .ok (.invokevirtual 244, 3) := by decide +kernel
theorem d_M_cycle_9 : decode c_M_cycle 9 = .ok (.ireturn, 1) := by decide +kernel
theorem d_M_clock_0 : decode c_M_clock 0 = .ok (.aload_n 0, 1) := by decide +kernel
theorem d_M_clock_1 : decode c_M_clock 1 = .ok (.invokevirtual 232, 3) := by decide +kernel
theorem d_M_clock_4 : decode c_M_clock 4 = .ok (.istore_n 1, 1) := by decide +kernel
theorem d_M_clock_5 : decode c_M_clock 5 = .ok (.aload_n 0, 1) := by decide +kernel
theorem d_M_clock_6 : decode c_M_clock 6 = .ok (.iload_n 1, 1) := by decide +kernel
theorem d_M_clock_7 : decode c_M_clock 7 = .ok (.invokevirtual 235, 3) := by decide +kernel
theorem d_M_clock_10 : decode c_M_clock 10 = .ok (.aload_n 0, 1) := by decide +kernel
theorem d_M_clock_11 : decode c_M_clock 11 = .ok (.getfield 157, 3) := by decide +kernel
theorem d_M_clock_14 : decode c_M_clock 14 = .ok (.ifCond .eq 10, 3) := by decide +kernel
theorem d_M_clock_17 : decode c_M_clock 17 = .ok (.aload_n 0, 1) := by decide +kernel
theorem d_M_clock_18 : decode c_M_clock 18 = .ok (.getfield 163, 3) := by decide +kernel
theorem d_M_clock_21 : decode c_M_clock 21 = .ok (.goto 16, 3) := by decide +kernel
theorem d_M_clock_24 : decode c_M_clock 24 = .ok (.aload_n 0, 1) := by decide +kernel
theorem d_M_clock_25 : decode c_M_clock 25 = .ok (.getfield 7, 3) := by decide +kernel
theorem d_M_clock_28 : decode c_M_clock 28 = .ok (.aload_n 0, 1) := by decide +kernel
theorem d_M_clock_29 : decode c_M_clock 29 = .ok (.getfield 154, 3) := by decide +kernel
theorem d_M_clock_32 : decode c_M_clock 32 = .ok (.sipush 1023, 3) := by decide +kernel
theorem d_M_clock_35 : decode c_M_clock 35 = .ok (.iand, 1) := by decide +kernel
theorem d_M_clock_36 : decode c_M_clock 36 = .ok (.iaload, 1) := by decide +kernel
theorem d_M_clock_37 : decode c_M_clock 37 = .ok (.istore_n 2, 1) := by decide +kernel
theorem d_M_clock_38 : decode c_M_clock 38 = .ok (.sipush 512, 3) := by decide +kernel
theorem d_M_clock_41 : decode c_M_clock 41 = .ok (.aload_n 0, 1) := by decide +kernel
theorem d_M_clock_42 : decode c_M_clock 42 = .ok (.getfield 154, 3) := by decide +kernel
theorem d_M_clock_45 : decode c_M_clock 45 = .ok (.imul, 1) := by decide +kernel
theorem d_M_clock_46 : decode c_M_clock 46 = .ok (.aload_n 0, 1) := by decide +kernel
theorem d_M_clock_47 : decode c_M_clock 47 = .ok (.getfield 157, 3) := by decide +kernel
theorem d_M_clock_50 : decode c_M_clock 50 = .ok (.ifCond .eq 9, 3) := by decide +kernel
theorem d_M_clock_53 : decode c_M_clock 53 = .ok (.sipush 256, 3) := by decide +kernel
theorem d_M_clock_56 : decode c_M_clock 56 = .ok (.goto 4, 3) := by decide +kernel
theorem d_M_clock_59 : decode c_M_clock 59 = .ok (.iconst 0, 1) := by decide +kernel
theorem d_M_clock_60 : decode c_M_clock 60 = .ok (.iadd, 1) := by decide +kernel
theorem d_M_clock_61 : decode c_M_clock 61 = .ok (.iload_n 2, 1) := by decide +kernel
theorem d_M_clock_62 : decode c_M_clock 62 = .ok (.iadd, 1) := by decide +kernel
theorem d_M_clock_63 : decode c_M_clock 63 = .ok (.istore_n 3, 1) := by decide +kernel
theorem d_M_clock_64 : decode c_M_clock 64 = .ok (.aload_n 0, 1) := by decide +kernel
theorem d_M_clock_65 : decode c_M_clock 65 = .ok (.getfield 157, 3) := by decide +kernel
theorem d_M_clock_68 : decode c_M_clock 68 = .ok (.ifCond .ne 12, 3) := by decide +kernel
theorem d_M_clock_71 : decode c_M_clock 71 = .ok (.aload_n 0, 1) := by decide +kernel
theorem d_M_clock_72 : decode c_M_clock 72 = .ok (.getfield 13, 3) := by decide +kernel
theorem d_M_clock_75 : decode c_M_clock 75 = .ok (.ifCond .ne 5, 3) := by decide +kernel
theorem d_M_clock_78 : decode c_M_clock 78 = .ok (.iload_n 3, 1) := by decide +kernel
theorem d_M_clock_79 : decode c_M_clock 79 = .ok (.ireturn, 1) := by decide +kernel
theorem d_M_clock_80 : decode c_M_clock 80 = .ok (.aload_n 0, 1) := by decide +kernel
theorem d_M_clock_81 : decode c_M_clock 81 = .ok (.getfield 157, 3) := by decide +kernel
theorem d_M_clock_84 : decode c_M_clock 84 = .ok (.ifCond .eq 17, 3) := by decide +kernel
theorem d_M_clock_87 : decode c_M_clock 87 = .ok (.aload_n 0, 1) := by decide +kernel
theorem d_M_clock_88 : decode c_M_clock 88 = .ok (.getfield 7, 3) := by decide +kernel
theorem d_M_clock_91 : decode c_M_clock 91 = .ok (.aload_n 0, 1) := by decide +kernel
theorem d_M_clock_92 : decode c_M_clock 92 = .ok (.getfield 154, 3) := by decide +kernel
theorem d_M_clock_95 : decode c_M_clock 95 = .ok (.sipush 1023, 3) := by decide +kernel
theorem d_M_clock_98 : decode c_M_clock 98 = .ok (.iand, 1) := by decide +kernel
theorem d_M_clock_99 : decode c_M_clock 99 = .ok (.iload_n 2, 1) := by decide +kernel
theorem d_M_clock_100 : decode c_M_clock 100 = .ok (.iastore, 1) := by decide +kernel
theorem d_M_clock_101 : decode c_M_clock 101 = .ok (.aload_n 0, 1) := by decide +kernel
theorem d_M_clock_102 : decode c_M_clock 102 = .ok (.iload_n 1, 1) := by decide +kernel
theorem d_M_clock_103 : decode c_M_clock 103 = .ok (.iload_n 2, 1) := by decide +kernel
theorem d_M_clock_104 : decode c_M_clock 104 = .ok (.invokevirtual 238, 3) := by decide +kernel
theorem d_M_clock_107 : decode c_M_clock 107 = .ok (.aload_n 0, 1) := by decide +kernel
theorem d_M_clock_108 : decode c_M_clock 108 = .ok (.iload_n 1, 1) := by decide +kernel
theorem d_M_clock_109 : decode c_M_clock 109 = .ok (.bipush 32, 2) := by decide +kernel
theorem d_M_clock_111 : decode c_M_clock 111 = .ok (.if_icmp .ne 7, 3) := by decide +kernel
theorem d_M_clock_114 : decode c_M_clock 114 = .ok (.iconst 1, 1) := by decide +kernel
theorem d_M_clock_115 : decode c_M_clock 115 = .ok (.goto 9, 3) := by decide +kernel
theorem d_M_clock_118 : decode c_M_clock 118 = .ok (.aload_n 0, 1) := by decide +kernel
theorem d_M_clock_119 : decode c_M_clock 119 = .ok (.getfield 43, 3) := by decide +kernel
theorem d_M_clock_122 : decode c_M_clock 122 = .ok (.iconst 1, 1) := by decide +kernel
theorem d_M_clock_123 : decode c_M_clock 123 = .ok (.iadd, 1) := by decide +kernel
theorem d_M_clock_124 : decode c_M_clock 124 = .ok (.putfield 43, 3) := by decide +kernel
theorem d_M_clock_127 : decode c_M_clock 127 = .ok (.aload_n 0, 1) := by decide +kernel
theorem d_M_clock_128 : decode c_M_clock 128 = .ok (.getfield 49, 3) := by decide +kernel
theorem d_M_clock_131 : decode c_M_clock 131 = .ok (.bipush 99, 2) := by decide +kernel
theorem d_M_clock_133 : decode c_M_clock 133 = .ok (.if_icmp .ne 10, 3) := by decide +kernel
theorem d_M_clock_136 : decode c_M_clock 136 = .ok (.aload_n 0, 1) := by decide +kernel
theorem d_M_clock_137 : decode c_M_clock 137 = .ok (.getfield 40, 3) := by decide +kernel
theorem d_M_clock_140 : decode c_M_clock 140 = .ok (.ifCond .eq 10, 3) := by decide +kernel
theorem d_M_clock_143 : decode c_M_clock 143 = .ok (.aload_n 0, 1) := by decide +kernel
theorem d_M_clock_144 : decode c_M_clock 144 = .ok (.invokevirtual 232, 3) := by decide +kernel
theorem d_M_clock_147 : decode c_M_clock 147 = .ok (.ifCond .ne 54, 3) := by decide +kernel
theorem d_M_clock_150 : decode c_M_clock 150 = .ok (.aload_n 0, 1) := by decide +kernel
theorem d_M_clock_151 : decode c_M_clock 151 = .ok (.dup, 1) := by decide +kernel
theorem d_M_clock_152 : decode c_M_clock 152 = .ok (.getfield 241, 3) := by decide +kernel
theorem d_M_clock_155 : decode c_M_clock 155 = .ok (.iconst 1, 1) := by decide +kernel
theorem d_M_clock_156 : decode c_M_clock 156 = .ok (.iadd, 1) := by decide +kernel
theorem d_M_clock_157 : decode c_M_clock 157 = .ok (.putfield 241, 3) := by decide +kernel
theorem d_M_clock_160 : decode c_M_clock 160 = .ok (.aload_n 0, 1) := by decide +kernel
theorem d_M_clock_161 : decode c_M_clock 161 = .ok (.iconst 0, 1) := by decide +kernel
theorem d_M_clock_162 : decode c_M_clock 162 = .ok (.putfield 49, 3) := by decide +kernel
theorem d_M_clock_165 : decode c_M_clock 165 = .ok (.aload_n 0, 1) := by decide +kernel
theorem d_M_clock_166 : decode c_M_clock 166 = .ok (.iconst 0, 1) := by decide +kernel
theorem d_M_clock_167 : decode c_M_clock 167 = .ok (.putfield 43, 3) := by decide +kernel
theorem d_M_clock_170 : decode c_M_clock 170 = .ok (.aload_n 0, 1) := by decide +kernel
theorem d_M_clock_171 : decode c_M_clock 171 = .ok (.aload_n 0, 1) := by decide +kernel
theorem d_M_clock_172 : decode c_M_clock 172 = .ok (.getfield 37, 3) := by decide +kernel
theorem d_M_clock_175 : decode c_M_clock 175 = .ok (.ifCond .ne 18, 3) := by decide +kernel
theorem d_M_clock_178 : decode c_M_clock 178 = .ok (.aload_n 0, 1) := by decide +kernel
theorem d_M_clock_179 : decode c_M_clock 179 = .ok (.getfield 31, 3) := by decide +kernel
theorem d_M_clock_182 : decode c_M_clock 182 = .ok (.ifCond .eq 15, 3) := by decide +kernel
theorem d_M_clock_185 : decode c_M_clock 185 = .ok (.aload_n 0, 1) := by decide +kernel
theorem d_M_clock_186 : decode c_M_clock 186 = .ok (.iconst 4, 1) := by decide +kernel
theorem d_M_clock_187 : decode c_M_clock 187 = .ok (.invokevirtual 82, 3) := by decide +kernel
theorem d_M_clock_190 : decode c_M_clock 190 = .ok (.ifCond .ne 7, 3) := by decide +kernel
theorem d_M_clock_193 : decode c_M_clock 193 = .ok (.iconst 1, 1) := by decide +kernel
theorem d_M_clock_194 : decode c_M_clock 194 = .ok (.goto 4, 3) := by decide +kernel
theorem d_M_clock_197 : decode c_M_clock 197 = .ok (.iconst 0, 1) := by decide +kernel
theorem d_M_clock_198 : decode c_M_clock 198 = .ok (.putfield 40, 3) := by decide +kernel
theorem d_M_clock_201 : decode c_M_clock 201 = .ok (.iload_n 3, 1) := by decide +kernel
theorem d_M_clock_202 : decode c_M_clock 202 = .ok (.ireturn, 1) := by decide +kernel
theorem d_M_action_0 : decode c_M_action 0 = .ok (.aload_n 0, 1) := by decide +kernel
theorem d_M_action_1 : decode c_M_action 1 = .ok (.getfield 40, 3) := by decide +kernel
theorem d_M_action_4 : decode c_M_action 4 = .ok (.iconst 1, 1) := by decide +kernel
theorem d_M_action_5 : decode c_M_action 5 = .ok (.if_icmp .ne 14, 3) := by decide +kernel
theorem d_M_action_8 : decode c_M_action 8 = .ok (.ldc2_w 128, 3) := by decide +kernel
theorem d_M_action_11 : decode c_M_action 11 = .ok (.aload_n 0, 1) := by decide +kernel
theorem d_M_action_12 : decode c_M_action 12 = .ok (.getfield 43, 3) := by decide +kernel
theorem d_M_action_15 : decode c_M_action 15 = .ok (.invokestatic 130, 3) := by decide +kernel
theorem d_M_action_18 : decode c_M_action 18 = .ok (.ireturn, 1) := by decide +kernel
theorem d_M_action_19 : decode c_M_action 19 = .ok (.aload_n 0, 1) := by decide +kernel
theorem d_M_action_20 : decode c_M_action 20 = .ok (.getfield 40, 3) := by decide +kernel
theorem d_M_action_23 : decode c_M_action 23 = .ok (.iconst 2, 1) := by decide +kernel
theorem d_M_action_24 : decode c_M_action 24 = .ok (.if_icmp .ne 14, 3) := by decide +kernel
theorem d_M_action_27 : decode c_M_action 27 = .ok (.ldc2_w 134, 3) := by decide +kernel
theorem d_M_action_30 : decode c_M_action 30 = .ok (.aload_n 0, 1) := by decide +kernel
theorem d_M_action_31 : decode c_M_action 31 = .ok (.getfield 43, 3) := by decide +kernel
theorem d_M_action_34 : decode c_M_action 34 = .ok (.invokestatic 130, 3) := by decide +kernel
theorem d_M_action_37 : decode c_M_action 37 = .ok (.ireturn, 1) := by decide +kernel
theorem d_M_action_38 : decode c_M_action 38 = .ok (.aload_n 0, 1) := by decide +kernel
theorem d_M_action_39 : decode c_M_action 39 = .ok (.getfield 46, 3) := by decide +kernel
theorem d_M_action_42 : decode c_M_action 42 = .ok (.ifCond .eq 6, 3) := by decide +kernel
theorem d_M_action_45 : decode c_M_action 45 = .ok (.bipush 32, 2) := by decide +kernel
theorem d_M_action_47 : decode c_M_action 47 = .ok (.ireturn, 1) := by decide +kernel
theorem d_M_action_48 : decode c_M_action 48 = .ok (.aload_n 0, 1) := by decide +kernel
theorem d_M_action_49 : decode c_M_action 49 = .ok (.getfield 43, 3) := by decide +kernel
theorem d_M_action_52 : decode c_M_action 52 = .ok (.ifCond .ne 5, 3) := by decide +kernel
theorem d_M_action_55 : decode c_M_action 55 = .ok (.iconst 1, 1) := by decide +kernel
theorem d_M_action_56 : decode c_M_action 56 = .ok (.ireturn, 1) := by decide +kernel
theorem d_M_action_57 : decode c_M_action 57 = .ok (.aload_n 0, 1) := by decide +kernel
theorem d_M_action_58 : decode c_M_action 58 = .ok (.getfield 52, 3) := by decide +kernel
theorem d_M_action_61 : decode c_M_action 61 = .ok (.bipush 7, 2) := by decide +kernel
theorem d_M_action_63 : decode c_M_action 63 = .ok (.if_icmp .eq 12, 3) := by decide +kernel
theorem d_M_action_66 : decode c_M_action 66 = .ok (.aload_n 0, 1) := by decide +kernel
theorem d_M_action_67 : decode c_M_action 67 = .ok (.getfield 49, 3) := by decide +kernel
theorem d_M_action_70 : decode c_M_action 70 = .ok (.bipush 13, 2) := by decide +kernel
theorem d_M_action_72 : decode c_M_action 72 = .ok (.if_icmp .le 17, 3) := by decide +kernel
theorem d_M_action_75 : decode c_M_action 75 = .ok (.aload_n 0, 1) := by decide +kernel
theorem d_M_action_76 : decode c_M_action 76 = .ok (.invokevirtual 136, 3) := by decide +kernel
theorem d_M_action_79 : decode c_M_action 79 = .ok (.aload_n 0, 1) := by decide +kernel
theorem d_M_action_80 : decode c_M_action 80 = .ok (.getfield 43, 3) := by decide +kernel
theorem d_M_action_83 : decode c_M_action 83 = .ok (.iconst 1, 1) := by decide +kernel
theorem d_M_action_84 : decode c_M_action 84 = .ok (.isub, 1) := by decide +kernel
theorem d_M_action_85 : decode c_M_action 85 = .ok (.invokestatic 130, 3) := by decide +kernel
theorem d_M_action_88 : decode c_M_action 88 = .ok (.ireturn, 1) := by decide +kernel
theorem d_M_action_89 : decode c_M_action 89 = .ok (.aload_n 0, 1) := by decide +kernel
theorem d_M_action_90 : decode c_M_action 90 = .ok (.invokevirtual 140, 3) := by decide +kernel
theorem d_M_action_93 : decode c_M_action 93 = .ok (.lstore_n 1, 1) := by decide +kernel
theorem d_M_action_94 : decode c_M_action 94 = .ok (.lload_n 1, 1) := by decide +kernel
theorem d_M_action_95 : decode c_M_action 95 = .ok (.invokestatic 143, 3) := by decide +kernel
theorem d_M_action_98 : decode c_M_action 98 = .ok (.istore_n 3, 1) := by decide +kernel
theorem d_M_action_99 : decode c_M_action 99 = .ok (.aload_n 0, 1) := by decide +kernel
theorem d_M_action_100 : decode c_M_action 100 = .ok (.getfield 43, 3) := by decide +kernel
theorem d_M_action_103 : decode c_M_action 103 = .ok (.iload_n 3, 1) := by decide +kernel
theorem d_M_action_104 : decode c_M_action 104 = .ok (.if_icmp .gt 14, 3) := by decide +kernel
theorem d_M_action_107 : decode c_M_action 107 = .ok (.lload_n 1, 1) := by decide +kernel
theorem d_M_action_108 : decode c_M_action 108 = .ok (.aload_n 0, 1) := by decide +kernel
theorem d_M_action_109 : decode c_M_action 109 = .ok (.getfield 43, 3) := by decide +kernel
theorem d_M_action_112 : decode c_M_action 112 = .ok (.iconst 1, 1) := by decide +kernel
theorem d_M_action_113 : decode c_M_action 113 = .ok (.isub, 1) := by decide +kernel
theorem d_M_action_114 : decode c_M_action 114 = .ok (.invokestatic 130, 3) := by decide +kernel
theorem d_M_action_117 : decode c_M_action 117 = .ok (.ireturn, 1) := by decide +kernel
theorem d_M_action_118 : decode c_M_action 118 = .ok (.aload_n 0, 1) := by decide +kernel
theorem d_M_action_119 : decode c_M_action 119 = .ok (.getfield 147, 3) := by decide +kernel
theorem d_M_action_122 : decode c_M_action 122 = .ok (.ifCond .eq 7, 3) := by decide +kernel
theorem d_M_action_125 : decode c_M_action 125 = .ok (.iconst 1, 1) := by decide +kernel
theorem d_M_action_126 : decode c_M_action 126 = .ok (.goto 4, 3) := by decide +kernel
theorem d_M_action_129 : decode c_M_action 129 = .ok (.iconst 0, 1) := by decide +kernel
theorem d_M_action_130 : decode c_M_action 130 = .ok (.istore 4, 2) := by decide +kernel
theorem d_M_action_132 : decode c_M_action 132 = .ok (.iload 4, 2) := by decide +kernel
theorem d_M_action_134 : decode c_M_action 134 = .ok (.iconst 1, 1) := by decide +kernel
theorem d_M_action_135 : decode c_M_action 135 = .ok (.if_icmp .ne 18, 3) := by decide +kernel
theorem d_M_action_138 : decode c_M_action 138 = .ok (.aload_n 0, 1) := by decide +kernel
theorem d_M_action_139 : decode c_M_action 139 = .ok (.getfield 43, 3) := by decide +kernel
theorem d_M_action_142 : decode c_M_action 142 = .ok (.iload_n 3, 1) := by decide +kernel
theorem d_M_action_143 : decode c_M_action 143 = .ok (.iconst 1, 1) := by decide +kernel
theorem d_M_action_144 : decode c_M_action 144 = .ok (.iadd, 1) := by decide +kernel
theorem d_M_action_145 : decode c_M_action 145 = .ok (.if_icmp .ne 8, 3) := by decide +kernel
theorem d_M_action_148 : decode c_M_action 148 = .ok (.bipush 8, 2) := by decide +kernel
theorem d_M_action_150 : decode c_M_action 150 = .ok (.goto 18, 3) := by decide +kernel
theorem d_M_action_153 : decode c_M_action 153 = .ok (.aload_n 0, 1) := by decide +kernel
theorem d_M_action_154 : decode c_M_action 154 = .ok (.aload_n 0, 1) := by decide +kernel
theorem d_M_action_155 : decode c_M_action 155 = .ok (.getfield 43, 3) := by decide +kernel
theorem d_M_action_158 : decode c_M_action 158 = .ok (.iload_n 3, 1) := by decide +kernel
theorem d_M_action_159 : decode c_M_action 159 = .ok (.isub, 1) := by decide +kernel
theorem d_M_action_160 : decode c_M_action 160 = .ok (.iload 4, 2) := by decide +kernel
theorem d_M_action_162 : decode c_M_action 162 = .ok (.isub, 1) := by decide +kernel
theorem d_M_action_163 : decode c_M_action 163 = .ok (.iconst 1, 1) := by decide +kernel
theorem d_M_action_164 : decode c_M_action 164 = .ok (.isub, 1) := by decide +kernel
theorem d_M_action_165 : decode c_M_action 165 = .ok (.invokevirtual 150, 3) := by decide +kernel
theorem d_M_action_168 : decode c_M_action 168 = .ok (.ireturn, 1) := by decide +kernel
theorem d_M_digit_0 : decode c_M_digit 0 = .ok (.lload_n 0, 1) := by decide +kernel
theorem d_M_digit_1 : decode c_M_digit 1 = .ok (.lstore_n 3, 1) := by decide +kernel
theorem d_M_digit_2 : decode c_M_digit 2 = .ok (.iconst 0, 1) := by decide +kernel
theorem d_M_digit_3 : decode c_M_digit 3 = .ok (.istore 5, 2) := by decide +kernel
theorem d_M_digit_5 : decode c_M_digit 5 = .ok (.iload 5, 2) := by decide +kernel
theorem d_M_digit_7 : decode c_M_digit 7 = .ok (.iload_n 2, 1) := by decide +kernel
theorem d_M_digit_8 : decode c_M_digit 8 = .ok (.if_icmp .ge 15, 3) := by decide +kernel
theorem d_M_digit_11 : decode c_M_digit 11 = .ok (.lload_n 3, 1) := by decide +kernel
theorem d_M_digit_12 : decode c_M_digit 12 = .ok (.ldc2_w 86, 3) := by decide +kernel
theorem d_M_digit_15 : decode c_M_digit 15 = .ok (.ldiv, 1) := by decide +kernel
theorem d_M_digit_16 : decode c_M_digit 16 = .ok (.lstore_n 3, 1) := by decide +kernel
theorem d_M_digit_17 : decode c_M_digit 17 = .ok (.iinc 5 1, 3) := by decide +kernel
theorem d_M_digit_20 : decode c_M_digit 20 = .ok (.goto (-15), 3) := by decide +kernel
theorem d_M_digit_23 : decode c_M_digit 23 = .ok (.lload_n 3, 1) := by decide +kernel
theorem d_M_digit_24 : decode c_M_digit 24 = .ok (.ldc2_w 86, 3) := by decide +kernel
theorem d_M_digit_27 : decode c_M_digit 27 = .ok (.lrem, 1) := by decide +kernel
theorem d_M_digit_28 : decode c_M_digit 28 = .ok (.l2i, 1) := by decide +kernel
theorem d_M_digit_29 : decode c_M_digit 29 = .ok (.ireturn, 1) := by decide +kernel
theorem d_M_plainRow_0 : decode c_M_plainRow 0 = .ok (.aload_n 0, 1) := by decide +kernel
theorem d_M_plainRow_1 : decode c_M_plainRow 1 = .ok (.getfield 52, 3) := by decide +kernel
theorem d_M_plainRow_4 : decode c_M_plainRow 4 = .ok (.bipush 7, 2) := by decide +kernel
theorem d_M_plainRow_6 : decode c_M_plainRow 6 = .ok (.if_icmp .ne 82, 3) := by decide +kernel
theorem d_M_plainRow_9 : decode c_M_plainRow 9 = .ok (.aload_n 0, 1) := by decide +kernel
theorem d_M_plainRow_10 : decode c_M_plainRow 10 = .ok (.getfield 49, 3) := by decide +kernel
theorem d_M_plainRow_13 : decode c_M_plainRow 13 = .ok (.tableswitch 71 16 22 #[43, 47, 51, 55, 59, 63, 67], 43) := by decide +kernel
theorem d_M_plainRow_56 : decode c_M_plainRow 56 = .ok (.ldc2_w 88, 3) := by decide +kernel
theorem d_M_plainRow_59 : decode c_M_plainRow 59 = .ok (.lreturn, 1) := by decide +kernel
theorem d_M_plainRow_60 : decode c_M_plainRow 60 = .ok (.ldc2_w 90, 3) := by decide +kernel
theorem d_M_plainRow_63 : decode c_M_plainRow 63 = .ok (.lreturn, 1) := by decide +kernel
theorem d_M_plainRow_64 : decode c_M_plainRow 64 = .ok (.ldc2_w 92, 3) := by decide +kernel
theorem d_M_plainRow_67 : decode c_M_plainRow 67 = .ok (.lreturn, 1) := by decide +kernel
theorem d_M_plainRow_68 : decode c_M_plainRow 68 = .ok (.ldc2_w 94, 3) := by decide +kernel
theorem d_M_plainRow_71 : decode c_M_plainRow 71 = .ok (.lreturn, 1) := by decide +kernel
theorem d_M_plainRow_72 : decode c_M_plainRow 72 = .ok (.ldc2_w 96, 3) := by decide +kernel
theorem d_M_plainRow_75 : decode c_M_plainRow 75 = .ok (.lreturn, 1) := by decide +kernel
theorem d_M_plainRow_76 : decode c_M_plainRow 76 = .ok (.ldc2_w 98, 3) := by decide +kernel
theorem d_M_plainRow_79 : decode c_M_plainRow 79 = .ok (.lreturn, 1) := by decide +kernel
theorem d_M_plainRow_80 : decode c_M_plainRow 80 = .ok (.ldc2_w 100, 3) := by decide +kernel
theorem d_M_plainRow_83 : decode c_M_plainRow 83 = .ok (.lreturn, 1) := by decide +kernel
theorem d_M_plainRow_84 : decode c_M_plainRow 84 = .ok (.ldc2_w 102, 3) := by decide +kernel
theorem d_M_plainRow_87 : decode c_M_plainRow 87 = .ok (.lreturn, 1) := by decide +kernel
theorem d_M_plainRow_88 : decode c_M_plainRow 88 = .ok (.aload_n 0, 1) := by decide +kernel
theorem d_M_plainRow_89 : decode c_M_plainRow 89 = .ok (.getfield 49, 3) := by decide +kernel
theorem d_M_plainRow_92 : decode c_M_plainRow 92 = .ok (.bipush 24, 2) := by decide +kernel
theorem d_M_plainRow_94 : decode c_M_plainRow 94 = .ok (.if_icmp .ne 7, 3) := by decide +kernel
theorem d_M_plainRow_97 : decode c_M_plainRow 97 = .ok (.ldc2_w 104, 3) := by decide +kernel
theorem d_M_plainRow_100 : decode c_M_plainRow 100 = .ok (.lreturn, 1) := by decide +kernel
theorem d_M_plainRow_101 : decode c_M_plainRow 101 = .ok (.aload_n 0, 1) := by decide +kernel
theorem d_M_plainRow_102 : decode c_M_plainRow 102 = .ok (.getfield 49, 3) := by decide +kernel
theorem d_M_plainRow_105 : decode c_M_plainRow 105 = .ok (.bipush 25, 2) := by decide +kernel
theorem d_M_plainRow_107 : decode c_M_plainRow 107 = .ok (.if_icmp .ne 7, 3) := by decide +kernel
theorem d_M_plainRow_110 : decode c_M_plainRow 110 = .ok (.ldc2_w 106, 3) := by decide +kernel
theorem d_M_plainRow_113 : decode c_M_plainRow 113 = .ok (.lreturn, 1) := by decide +kernel
theorem d_M_plainRow_114 : decode c_M_plainRow 114 = .ok (.aload_n 0, 1) := by decide +kernel
theorem d_M_plainRow_115 : decode c_M_plainRow 115 = .ok (.getfield 108, 3) := by decide +kernel
theorem d_M_plainRow_118 : decode c_M_plainRow 118 = .ok (.ifCond .ne 9, 3) := by decide +kernel
theorem d_M_plainRow_121 : decode c_M_plainRow 121 = .ok (.ldc2_w 111, 3) := by decide +kernel
theorem d_M_plainRow_124 : decode c_M_plainRow 124 = .ok (.goto 39, 3) := by decide +kernel
theorem d_M_plainRow_127 : decode c_M_plainRow 127 = .ok (.ldc2_w 113, 3) := by decide +kernel
theorem d_M_plainRow_130 : decode c_M_plainRow 130 = .ok (.aload_n 0, 1) := by decide +kernel
theorem d_M_plainRow_131 : decode c_M_plainRow 131 = .ok (.getfield 43, 3) := by decide +kernel
theorem d_M_plainRow_134 : decode c_M_plainRow 134 = .ok (.iconst 1, 1) := by decide +kernel
theorem d_M_plainRow_135 : decode c_M_plainRow 135 = .ok (.if_icmp .le 26, 3) := by decide +kernel
theorem d_M_plainRow_138 : decode c_M_plainRow 138 = .ok (.aload_n 0, 1) := by decide +kernel
theorem d_M_plainRow_139 : decode c_M_plainRow 139 = .ok (.invokevirtual 115, 3) := by decide +kernel
theorem d_M_plainRow_142 : decode c_M_plainRow 142 = .ok (.bipush 8, 2) := by decide +kernel
theorem d_M_plainRow_144 : decode c_M_plainRow 144 = .ok (.ishr, 1) := by decide +kernel
theorem d_M_plainRow_145 : decode c_M_plainRow 145 = .ok (.aload_n 0, 1) := by decide +kernel
theorem d_M_plainRow_146 : decode c_M_plainRow 146 = .ok (.getfield 59, 3) := by decide +kernel
theorem d_M_plainRow_149 : decode c_M_plainRow 149 = .ok (.bipush 8, 2) := by decide +kernel
theorem d_M_plainRow_151 : decode c_M_plainRow 151 = .ok (.ishr, 1) := by decide +kernel
theorem d_M_plainRow_152 : decode c_M_plainRow 152 = .ok (.if_icmp .eq 9, 3) := by decide +kernel
theorem d_M_plainRow_155 : decode c_M_plainRow 155 = .ok (.ldc2_w 118, 3) := by decide +kernel
theorem d_M_plainRow_158 : decode c_M_plainRow 158 = .ok (.goto 4, 3) := by decide +kernel
theorem d_M_plainRow_161 : decode c_M_plainRow 161 = .ok (.lconst 0, 1) := by decide +kernel
theorem d_M_plainRow_162 : decode c_M_plainRow 162 = .ok (.ladd, 1) := by decide +kernel
theorem d_M_plainRow_163 : decode c_M_plainRow 163 = .ok (.lreturn, 1) := by decide +kernel
theorem d_M_target_0 : decode c_M_target 0 = .ok (.aload_n 0, 1) := by decide +kernel
theorem d_M_target_1 : decode c_M_target 1 = .ok (.getfield 62, 3) := by decide +kernel
theorem d_M_target_4 : decode c_M_target 4 = .ok (.bipush 127, 2) := by decide +kernel
theorem d_M_target_6 : decode c_M_target 6 = .ok (.if_icmp .le 14, 3) := by decide +kernel
theorem d_M_target_9 : decode c_M_target 9 = .ok (.aload_n 0, 1) := by decide +kernel
theorem d_M_target_10 : decode c_M_target 10 = .ok (.getfield 62, 3) := by decide +kernel
theorem d_M_target_13 : decode c_M_target 13 = .ok (.sipush 256, 3) := by decide +kernel
theorem d_M_target_16 : decode c_M_target 16 = .ok (.isub, 1) := by decide +kernel
theorem d_M_target_17 : decode c_M_target 17 = .ok (.goto 7, 3) := by decide +kernel
theorem d_M_target_20 : decode c_M_target 20 = .ok (.aload_n 0, 1) := by decide +kernel
theorem d_M_target_21 : decode c_M_target 21 = .ok (.getfield 62, 3) := by decide +kernel
theorem d_M_target_24 : decode c_M_target 24 = .ok (.istore_n 1, 1) := by decide +kernel
theorem d_M_target_25 : decode c_M_target 25 = .ok (.aload_n 0, 1) := by decide +kernel
theorem d_M_target_26 : decode c_M_target 26 = .ok (.getfield 59, 3) := by decide +kernel
theorem d_M_target_29 : decode c_M_target 29 = .ok (.iload_n 1, 1) := by decide +kernel
theorem d_M_target_30 : decode c_M_target 30 = .ok (.iadd, 1) := by decide +kernel
theorem d_M_target_31 : decode c_M_target 31 = .ok (.ldc 71, 2) := by decide +kernel
theorem d_M_target_33 : decode c_M_target 33 = .ok (.iand, 1) := by decide +kernel
theorem d_M_target_34 : decode c_M_target 34 = .ok (.ireturn, 1) := by decide +kernel
theorem d_M_addressRow_0 : decode c_M_addressRow 0 = .ok (.aload_n 0, 1) := by decide +kernel
theorem d_M_addressRow_1 : decode c_M_addressRow 1 = .ok (.getfield 52, 3) := by decide +kernel
theorem d_M_addressRow_4 : decode c_M_addressRow 4 = .ok (.tableswitch 58 0 5 #[40, 42, 46, 50, 50, 54], 40) := by decide +kernel
theorem d_M_addressRow_44 : decode c_M_addressRow 44 = .ok (.lconst 0, 1) := by decide +kernel
theorem d_M_addressRow_45 : decode c_M_addressRow 45 = .ok (.lreturn, 1) := by decide +kernel
theorem d_M_addressRow_46 : decode c_M_addressRow 46 = .ok (.ldc2_w 111, 3) := by decide +kernel
theorem d_M_addressRow_49 : decode c_M_addressRow 49 = .ok (.lreturn, 1) := by decide +kernel
theorem d_M_addressRow_50 : decode c_M_addressRow 50 = .ok (.ldc2_w 120, 3) := by decide +kernel
theorem d_M_addressRow_53 : decode c_M_addressRow 53 = .ok (.lreturn, 1) := by decide +kernel
theorem d_M_addressRow_54 : decode c_M_addressRow 54 = .ok (.ldc2_w 122, 3) := by decide +kernel
theorem d_M_addressRow_57 : decode c_M_addressRow 57 = .ok (.lreturn, 1) := by decide +kernel
theorem d_M_addressRow_58 : decode c_M_addressRow 58 = .ok (.ldc2_w 124, 3) := by decide +kernel
theorem d_M_addressRow_61 : decode c_M_addressRow 61 = .ok (.lreturn, 1) := by decide +kernel
theorem d_M_addressRow_62 : decode c_M_addressRow 62 = .ok (.ldc2_w 126, 3) := by decide +kernel
theorem d_M_addressRow_65 : decode c_M_addressRow 65 = .ok (.lreturn, 1) := by decide +kernel
theorem d_M_lengthOf_0 : decode c_M_lengthOf 0 = .ok (.iconst 0, 1) := by decide +kernel
theorem d_M_lengthOf_1 : decode c_M_lengthOf 1 = .ok (.istore_n 2, 1) := by decide +kernel
theorem d_M_lengthOf_2 : decode c_M_lengthOf 2 = .ok (.lload_n 0, 1) := by decide +kernel
theorem d_M_lengthOf_3 : decode c_M_lengthOf 3 = .ok (.lstore_n 3, 1) := by decide +kernel
theorem d_M_lengthOf_4 : decode c_M_lengthOf 4 = .ok (.lload_n 3, 1) := by decide +kernel
theorem d_M_lengthOf_5 : decode c_M_lengthOf 5 = .ok (.lconst 0, 1) := by decide +kernel
theorem d_M_lengthOf_6 : decode c_M_lengthOf 6 = .ok (.lcmp, 1) := by decide +kernel
theorem d_M_lengthOf_7 : decode c_M_lengthOf 7 = .ok (.ifCond .le 15, 3) := by decide +kernel
theorem d_M_lengthOf_10 : decode c_M_lengthOf 10 = .ok (.iinc 2 1, 3) := by decide +kernel
theorem d_M_lengthOf_13 : decode c_M_lengthOf 13 = .ok (.lload_n 3, 1) := by decide +kernel
theorem d_M_lengthOf_14 : decode c_M_lengthOf 14 = .ok (.ldc2_w 86, 3) := by decide +kernel
theorem d_M_lengthOf_17 : decode c_M_lengthOf 17 = .ok (.ldiv, 1) := by decide +kernel
theorem d_M_lengthOf_18 : decode c_M_lengthOf 18 = .ok (.lstore_n 3, 1) := by decide +kernel
theorem d_M_lengthOf_19 : decode c_M_lengthOf 19 = .ok (.goto (-15), 3) := by decide +kernel
theorem d_M_lengthOf_22 : decode c_M_lengthOf 22 = .ok (.iload_n 2, 1) := by decide +kernel
theorem d_M_lengthOf_23 : decode c_M_lengthOf 23 = .ok (.ireturn, 1) := by decide +kernel
theorem d_M_access_0 : decode c_M_access 0 = .ok (.aload_n 0, 1) := by decide +kernel
theorem d_M_access_1 : decode c_M_access 1 = .ok (.getfield 49, 3) := by decide +kernel
theorem d_M_access_4 : decode c_M_access 4 = .ok (.iconst 1, 1) := by decide +kernel
theorem d_M_access_5 : decode c_M_access 5 = .ok (.if_icmp .ne 14, 3) := by decide +kernel
theorem d_M_access_8 : decode c_M_access 8 = .ok (.iload_n 1, 1) := by decide +kernel
theorem d_M_access_9 : decode c_M_access 9 = .ok (.ifCond .ne 8, 3) := by decide +kernel
theorem d_M_access_12 : decode c_M_access 12 = .ok (.bipush 12, 2) := by decide +kernel
theorem d_M_access_14 : decode c_M_access 14 = .ok (.goto 4, 3) := by decide +kernel
theorem d_M_access_17 : decode c_M_access 17 = .ok (.iconst 0, 1) := by decide +kernel
theorem d_M_access_18 : decode c_M_access 18 = .ok (.ireturn, 1) := by decide +kernel
theorem d_M_access_19 : decode c_M_access 19 = .ok (.aload_n 0, 1) := by decide +kernel
theorem d_M_access_20 : decode c_M_access 20 = .ok (.invokevirtual 55, 3) := by decide +kernel
theorem d_M_access_23 : decode c_M_access 23 = .ok (.ifCond .eq 34, 3) := by decide +kernel
theorem d_M_access_26 : decode c_M_access 26 = .ok (.iload_n 1, 1) := by decide +kernel
theorem d_M_access_27 : decode c_M_access 27 = .ok (.ifCond .ne 8, 3) := by decide +kernel
theorem d_M_access_30 : decode c_M_access 30 = .ok (.bipush 13, 2) := by decide +kernel
theorem d_M_access_32 : decode c_M_access 32 = .ok (.goto 24, 3) := by decide +kernel
theorem d_M_access_35 : decode c_M_access 35 = .ok (.iload_n 1, 1) := by decide +kernel
theorem d_M_access_36 : decode c_M_access 36 = .ok (.iconst 1, 1) := by decide +kernel
theorem d_M_access_37 : decode c_M_access 37 = .ok (.if_icmp .ne 8, 3) := by decide +kernel
theorem d_M_access_40 : decode c_M_access 40 = .ok (.bipush 14, 2) := by decide +kernel
theorem d_M_access_42 : decode c_M_access 42 = .ok (.goto 14, 3) := by decide +kernel
theorem d_M_access_45 : decode c_M_access 45 = .ok (.iload_n 1, 1) := by decide +kernel
theorem d_M_access_46 : decode c_M_access 46 = .ok (.iconst 2, 1) := by decide +kernel
theorem d_M_access_47 : decode c_M_access 47 = .ok (.if_icmp .ne 8, 3) := by decide +kernel
theorem d_M_access_50 : decode c_M_access 50 = .ok (.bipush 15, 2) := by decide +kernel
theorem d_M_access_52 : decode c_M_access 52 = .ok (.goto 4, 3) := by decide +kernel
theorem d_M_access_55 : decode c_M_access 55 = .ok (.iconst 0, 1) := by decide +kernel
theorem d_M_access_56 : decode c_M_access 56 = .ok (.ireturn, 1) := by decide +kernel
theorem d_M_access_57 : decode c_M_access 57 = .ok (.iload_n 1, 1) := by decide +kernel
theorem d_M_access_58 : decode c_M_access 58 = .ok (.ifCond .ne 8, 3) := by decide +kernel
theorem d_M_access_61 : decode c_M_access 61 = .ok (.bipush 11, 2) := by decide +kernel
theorem d_M_access_63 : decode c_M_access 63 = .ok (.goto 4, 3) := by decide +kernel
theorem d_M_access_66 : decode c_M_access 66 = .ok (.iconst 0, 1) := by decide +kernel
theorem d_M_access_67 : decode c_M_access 67 = .ok (.ireturn, 1) := by decide +kernel
theorem d_M_isChange_0 : decode c_M_isChange 0 = .ok (.aload_n 0, 1) := by decide +kernel
theorem d_M_isChange_1 : decode c_M_isChange 1 = .ok (.getfield 49, 3) := by decide +kernel
theorem d_M_isChange_4 : decode c_M_isChange 4 = .ok (.bipush 10, 2) := by decide +kernel
theorem d_M_isChange_6 : decode c_M_isChange 6 = .ok (.if_icmp .lt 16, 3) := by decide +kernel
theorem d_M_isChange_9 : decode c_M_isChange 9 = .ok (.aload_n 0, 1) := by decide +kernel
theorem d_M_isChange_10 : decode c_M_isChange 10 = .ok (.getfield 49, 3) := by decide +kernel
theorem d_M_isChange_13 : decode c_M_isChange 13 = .ok (.bipush 13, 2) := by decide +kernel
theorem d_M_isChange_15 : decode c_M_isChange 15 = .ok (.if_icmp .gt 7, 3) := by decide +kernel
theorem d_M_isChange_18 : decode c_M_isChange 18 = .ok (.iconst 1, 1) := by decide +kernel
theorem d_M_isChange_19 : decode c_M_isChange 19 = .ok (.goto 4, 3) := by decide +kernel
theorem d_M_isChange_22 : decode c_M_isChange 22 = .ok (.iconst 0, 1) := by decide +kernel
theorem d_M_isChange_23 : decode c_M_isChange 23 = .ok (.ireturn, 1) := by decide +kernel
theorem d_M_plan_0 : decode c_M_plan 0 = .ok (.iload_n 1, 1) := by decide +kernel
theorem d_M_plan_1 : decode c_M_plan 1 = .ok (.tableswitch 380 1 32 #[143, 143, 143, 143, 143, 154, 165, 180, 191, 226, 269, 380, 269, 380, 380, 380, 380, 380, 380, 380, 280, 280, 280, 280, 143, 143, 143, 301, 335, 165, 348, 371], 143) := by decide +kernel
theorem d_M_plan_144 : decode c_M_plan 144 = .ok (.aload_n 0, 1) := by decide +kernel
theorem d_M_plan_145 : decode c_M_plan 145 = .ok (.aload_n 0, 1) := by decide +kernel
theorem d_M_plan_146 : decode c_M_plan 146 = .ok (.getfield 59, 3) := by decide +kernel
theorem d_M_plan_149 : decode c_M_plan 149 = .ok (.invokevirtual 166, 3) := by decide +kernel
theorem d_M_plan_152 : decode c_M_plan 152 = .ok (.goto 234, 3) := by decide +kernel
theorem d_M_plan_155 : decode c_M_plan 155 = .ok (.aload_n 0, 1) := by decide +kernel
theorem d_M_plan_156 : decode c_M_plan 156 = .ok (.aload_n 0, 1) := by decide +kernel
theorem d_M_plan_157 : decode c_M_plan 157 = .ok (.getfield 62, 3) := by decide +kernel
theorem d_M_plan_160 : decode c_M_plan 160 = .ok (.invokevirtual 166, 3) := by decide +kernel
theorem d_M_plan_163 : decode c_M_plan 163 = .ok (.goto 223, 3) := by decide +kernel
theorem d_M_plan_166 : decode c_M_plan 166 = .ok (.aload_n 0, 1) := by decide +kernel
theorem d_M_plan_167 : decode c_M_plan 167 = .ok (.sipush 256, 3) := by decide +kernel
theorem d_M_plan_170 : decode c_M_plan 170 = .ok (.aload_n 0, 1) := by decide +kernel
theorem d_M_plan_171 : decode c_M_plan 171 = .ok (.getfield 160, 3) := by decide +kernel
theorem d_M_plan_174 : decode c_M_plan 174 = .ok (.iadd, 1) := by decide +kernel
theorem d_M_plan_175 : decode c_M_plan 175 = .ok (.invokevirtual 166, 3) := by decide +kernel
theorem d_M_plan_178 : decode c_M_plan 178 = .ok (.goto 208, 3) := by decide +kernel
theorem d_M_plan_181 : decode c_M_plan 181 = .ok (.aload_n 0, 1) := by decide +kernel
theorem d_M_plan_182 : decode c_M_plan 182 = .ok (.aload_n 0, 1) := by decide +kernel
theorem d_M_plan_183 : decode c_M_plan 183 = .ok (.invokevirtual 170, 3) := by decide +kernel
theorem d_M_plan_186 : decode c_M_plan 186 = .ok (.invokevirtual 166, 3) := by decide +kernel
theorem d_M_plan_189 : decode c_M_plan 189 = .ok (.goto 197, 3) := by decide +kernel
theorem d_M_plan_192 : decode c_M_plan 192 = .ok (.aload_n 0, 1) := by decide +kernel
theorem d_M_plan_193 : decode c_M_plan 193 = .ok (.aload_n 0, 1) := by decide +kernel
theorem d_M_plan_194 : decode c_M_plan 194 = .ok (.getfield 52, 3) := by decide +kernel
theorem d_M_plan_197 : decode c_M_plan 197 = .ok (.iconst 5, 1) := by decide +kernel
theorem d_M_plan_198 : decode c_M_plan 198 = .ok (.if_icmp .ne 19, 3) := by decide +kernel
theorem d_M_plan_201 : decode c_M_plan 201 = .ok (.aload_n 0, 1) := by decide +kernel
theorem d_M_plan_202 : decode c_M_plan 202 = .ok (.getfield 62, 3) := by decide +kernel
theorem d_M_plan_205 : decode c_M_plan 205 = .ok (.aload_n 0, 1) := by decide +kernel
theorem d_M_plan_206 : decode c_M_plan 206 = .ok (.getfield 65, 3) := by decide +kernel
theorem d_M_plan_209 : decode c_M_plan 209 = .ok (.iadd, 1) := by decide +kernel
theorem d_M_plan_210 : decode c_M_plan 210 = .ok (.sipush 255, 3) := by decide +kernel
theorem d_M_plan_213 : decode c_M_plan 213 = .ok (.iand, 1) := by decide +kernel
theorem d_M_plan_214 : decode c_M_plan 214 = .ok (.goto 7, 3) := by decide +kernel
theorem d_M_plan_217 : decode c_M_plan 217 = .ok (.aload_n 0, 1) := by decide +kernel
theorem d_M_plan_218 : decode c_M_plan 218 = .ok (.getfield 62, 3) := by decide +kernel
theorem d_M_plan_221 : decode c_M_plan 221 = .ok (.invokevirtual 166, 3) := by decide +kernel
theorem d_M_plan_224 : decode c_M_plan 224 = .ok (.goto 162, 3) := by decide +kernel
theorem d_M_plan_227 : decode c_M_plan 227 = .ok (.aload_n 0, 1) := by decide +kernel
theorem d_M_plan_228 : decode c_M_plan 228 = .ok (.aload_n 0, 1) := by decide +kernel
theorem d_M_plan_229 : decode c_M_plan 229 = .ok (.getfield 52, 3) := by decide +kernel
theorem d_M_plan_232 : decode c_M_plan 232 = .ok (.iconst 5, 1) := by decide +kernel
theorem d_M_plan_233 : decode c_M_plan 233 = .ok (.if_icmp .ne 21, 3) := by decide +kernel
theorem d_M_plan_236 : decode c_M_plan 236 = .ok (.aload_n 0, 1) := by decide +kernel
theorem d_M_plan_237 : decode c_M_plan 237 = .ok (.getfield 62, 3) := by decide +kernel
theorem d_M_plan_240 : decode c_M_plan 240 = .ok (.aload_n 0, 1) := by decide +kernel
theorem d_M_plan_241 : decode c_M_plan 241 = .ok (.getfield 65, 3) := by decide +kernel
theorem d_M_plan_244 : decode c_M_plan 244 = .ok (.iadd, 1) := by decide +kernel
theorem d_M_plan_245 : decode c_M_plan 245 = .ok (.iconst 1, 1) := by decide +kernel
theorem d_M_plan_246 : decode c_M_plan 246 = .ok (.iadd, 1) := by decide +kernel
theorem d_M_plan_247 : decode c_M_plan 247 = .ok (.sipush 255, 3) := by decide +kernel
theorem d_M_plan_250 : decode c_M_plan 250 = .ok (.iand, 1) := by decide +kernel
theorem d_M_plan_251 : decode c_M_plan 251 = .ok (.goto 13, 3) := by decide +kernel
theorem d_M_plan_254 : decode c_M_plan 254 = .ok (.aload_n 0, 1) := by decide +kernel
theorem d_M_plan_255 : decode c_M_plan 255 = .ok (.getfield 62, 3) := by decide +kernel
theorem d_M_plan_258 : decode c_M_plan 258 = .ok (.iconst 1, 1) := by decide +kernel
theorem d_M_plan_259 : decode c_M_plan 259 = .ok (.iadd, 1) := by decide +kernel
theorem d_M_plan_260 : decode c_M_plan 260 = .ok (.sipush 255, 3) := by decide +kernel
theorem d_M_plan_263 : decode c_M_plan 263 = .ok (.iand, 1) := by decide +kernel
theorem d_M_plan_264 : decode c_M_plan 264 = .ok (.invokevirtual 166, 3) := by decide +kernel
theorem d_M_plan_267 : decode c_M_plan 267 = .ok (.goto 119, 3) := by decide +kernel
theorem d_M_plan_270 : decode c_M_plan 270 = .ok (.aload_n 0, 1) := by decide +kernel
theorem d_M_plan_271 : decode c_M_plan 271 = .ok (.aload_n 0, 1) := by decide +kernel
theorem d_M_plan_272 : decode c_M_plan 272 = .ok (.invokevirtual 78, 3) := by decide +kernel
theorem d_M_plan_275 : decode c_M_plan 275 = .ok (.invokevirtual 166, 3) := by decide +kernel
theorem d_M_plan_278 : decode c_M_plan 278 = .ok (.goto 108, 3) := by decide +kernel
theorem d_M_plan_281 : decode c_M_plan 281 = .ok (.aload_n 0, 1) := by decide +kernel
theorem d_M_plan_282 : decode c_M_plan 282 = .ok (.sipush 256, 3) := by decide +kernel
theorem d_M_plan_285 : decode c_M_plan 285 = .ok (.aload_n 0, 1) := by decide +kernel
theorem d_M_plan_286 : decode c_M_plan 286 = .ok (.getfield 160, 3) := by decide +kernel
theorem d_M_plan_289 : decode c_M_plan 289 = .ok (.iconst 1, 1) := by decide +kernel
theorem d_M_plan_290 : decode c_M_plan 290 = .ok (.iadd, 1) := by decide +kernel
theorem d_M_plan_291 : decode c_M_plan 291 = .ok (.sipush 255, 3) := by decide +kernel
theorem d_M_plan_294 : decode c_M_plan 294 = .ok (.iand, 1) := by decide +kernel
theorem d_M_plan_295 : decode c_M_plan 295 = .ok (.iadd, 1) := by decide +kernel
theorem d_M_plan_296 : decode c_M_plan 296 = .ok (.invokevirtual 166, 3) := by decide +kernel
theorem d_M_plan_299 : decode c_M_plan 299 = .ok (.goto 87, 3) := by decide +kernel
theorem d_M_plan_302 : decode c_M_plan 302 = .ok (.aload_n 0, 1) := by decide +kernel
theorem d_M_plan_303 : decode c_M_plan 303 = .ok (.aload_n 0, 1) := by decide +kernel
theorem d_M_plan_304 : decode c_M_plan 304 = .ok (.getfield 40, 3) := by decide +kernel
theorem d_M_plan_307 : decode c_M_plan 307 = .ok (.iconst 2, 1) := by decide +kernel
theorem d_M_plan_308 : decode c_M_plan 308 = .ok (.if_icmp .ne 8, 3) := by decide +kernel
theorem d_M_plan_311 : decode c_M_plan 311 = .ok (.ldc 173, 2) := by decide +kernel
theorem d_M_plan_313 : decode c_M_plan 313 = .ok (.goto 17, 3) := by decide +kernel
theorem d_M_plan_316 : decode c_M_plan 316 = .ok (.aload_n 0, 1) := by decide +kernel
theorem d_M_plan_317 : decode c_M_plan 317 = .ok (.getfield 37, 3) := by decide +kernel
theorem d_M_plan_320 : decode c_M_plan 320 = .ok (.ifCond .eq 8, 3) := by decide +kernel
theorem d_M_plan_323 : decode c_M_plan 323 = .ok (.ldc 174, 2) := by decide +kernel
theorem d_M_plan_325 : decode c_M_plan 325 = .ok (.goto 5, 3) := by decide +kernel
theorem d_M_plan_328 : decode c_M_plan 328 = .ok (.ldc 175, 2) := by decide +kernel
theorem d_M_plan_330 : decode c_M_plan 330 = .ok (.invokevirtual 166, 3) := by decide +kernel
theorem d_M_plan_333 : decode c_M_plan 333 = .ok (.goto 53, 3) := by decide +kernel
theorem d_M_plan_336 : decode c_M_plan 336 = .ok (.aload_n 0, 1) := by decide +kernel
theorem d_M_plan_337 : decode c_M_plan 337 = .ok (.aload_n 0, 1) := by decide +kernel
theorem d_M_plan_338 : decode c_M_plan 338 = .ok (.getfield 176, 3) := by decide +kernel
theorem d_M_plan_341 : decode c_M_plan 341 = .ok (.iconst 1, 1) := by decide +kernel
theorem d_M_plan_342 : decode c_M_plan 342 = .ok (.iadd, 1) := by decide +kernel
theorem d_M_plan_343 : decode c_M_plan 343 = .ok (.invokevirtual 166, 3) := by decide +kernel
theorem d_M_plan_346 : decode c_M_plan 346 = .ok (.goto 40, 3) := by decide +kernel
theorem d_M_plan_349 : decode c_M_plan 349 = .ok (.aload_n 0, 1) := by decide +kernel
theorem d_M_plan_350 : decode c_M_plan 350 = .ok (.aload_n 0, 1) := by decide +kernel
theorem d_M_plan_351 : decode c_M_plan 351 = .ok (.getfield 59, 3) := by decide +kernel
theorem d_M_plan_354 : decode c_M_plan 354 = .ok (.ldc 179, 2) := by decide +kernel
theorem d_M_plan_356 : decode c_M_plan 356 = .ok (.iand, 1) := by decide +kernel
theorem d_M_plan_357 : decode c_M_plan 357 = .ok (.aload_n 0, 1) := by decide +kernel
theorem d_M_plan_358 : decode c_M_plan 358 = .ok (.invokevirtual 115, 3) := by decide +kernel
theorem d_M_plan_361 : decode c_M_plan 361 = .ok (.sipush 255, 3) := by decide +kernel
theorem d_M_plan_364 : decode c_M_plan 364 = .ok (.iand, 1) := by decide +kernel
theorem d_M_plan_365 : decode c_M_plan 365 = .ok (.ior, 1) := by decide +kernel
theorem d_M_plan_366 : decode c_M_plan 366 = .ok (.invokevirtual 166, 3) := by decide +kernel
theorem d_M_plan_369 : decode c_M_plan 369 = .ok (.goto 17, 3) := by decide +kernel
theorem d_M_plan_372 : decode c_M_plan 372 = .ok (.aload_n 0, 1) := by decide +kernel
theorem d_M_plan_373 : decode c_M_plan 373 = .ok (.ldc 71, 2) := by decide +kernel
theorem d_M_plan_375 : decode c_M_plan 375 = .ok (.invokevirtual 166, 3) := by decide +kernel
theorem d_M_plan_378 : decode c_M_plan 378 = .ok (.goto 8, 3) := by decide +kernel
theorem d_M_plan_381 : decode c_M_plan 381 = .ok (.aload_n 0, 1) := by decide +kernel
theorem d_M_plan_382 : decode c_M_plan 382 = .ok (.iload_n 1, 1) := by decide +kernel
theorem d_M_plan_383 : decode c_M_plan 383 = .ok (.invokevirtual 180, 3) := by decide +kernel
theorem d_M_plan_386 : decode c_M_plan 386 = .ok (.return_, 1) := by decide +kernel
theorem d_M_reads_0 : decode c_M_reads 0 = .ok (.aload_n 0, 1) := by decide +kernel
theorem d_M_reads_1 : decode c_M_reads 1 = .ok (.iload_n 1, 1) := by decide +kernel
theorem d_M_reads_2 : decode c_M_reads 2 = .ok (.ldc 71, 2) := by decide +kernel
theorem d_M_reads_4 : decode c_M_reads 4 = .ok (.iand, 1) := by decide +kernel
theorem d_M_reads_5 : decode c_M_reads 5 = .ok (.putfield 154, 3) := by decide +kernel
theorem d_M_reads_8 : decode c_M_reads 8 = .ok (.aload_n 0, 1) := by decide +kernel
theorem d_M_reads_9 : decode c_M_reads 9 = .ok (.iconst 0, 1) := by decide +kernel
theorem d_M_reads_10 : decode c_M_reads 10 = .ok (.putfield 157, 3) := by decide +kernel
theorem d_M_reads_13 : decode c_M_reads 13 = .ok (.return_, 1) := by decide +kernel
theorem d_M_half_0 : decode c_M_half 0 = .ok (.aload_n 0, 1) := by decide +kernel
theorem d_M_half_1 : decode c_M_half 1 = .ok (.invokevirtual 78, 3) := by decide +kernel
theorem d_M_half_4 : decode c_M_half 4 = .ok (.sipush 255, 3) := by decide +kernel
theorem d_M_half_7 : decode c_M_half 7 = .ok (.iand, 1) := by decide +kernel
theorem d_M_half_8 : decode c_M_half 8 = .ok (.aload_n 0, 1) := by decide +kernel
theorem d_M_half_9 : decode c_M_half 9 = .ok (.getfield 68, 3) := by decide +kernel
theorem d_M_half_12 : decode c_M_half 12 = .ok (.bipush 8, 2) := by decide +kernel
theorem d_M_half_14 : decode c_M_half 14 = .ok (.ishl, 1) := by decide +kernel
theorem d_M_half_15 : decode c_M_half 15 = .ok (.ior, 1) := by decide +kernel
theorem d_M_half_16 : decode c_M_half 16 = .ok (.ireturn, 1) := by decide +kernel
theorem d_M_operand_0 : decode c_M_operand 0 = .ok (.aload_n 0, 1) := by decide +kernel
theorem d_M_operand_1 : decode c_M_operand 1 = .ok (.getfield 52, 3) := by decide +kernel
theorem d_M_operand_4 : decode c_M_operand 4 = .ok (.tableswitch 111 0 5 #[40, 45, 50, 64, 77, 98], 40) := by decide +kernel
theorem d_M_operand_44 : decode c_M_operand 44 = .ok (.aload_n 0, 1) := by decide +kernel
theorem d_M_operand_45 : decode c_M_operand 45 = .ok (.getfield 59, 3) := by decide +kernel
theorem d_M_operand_48 : decode c_M_operand 48 = .ok (.ireturn, 1) := by decide +kernel
theorem d_M_operand_49 : decode c_M_operand 49 = .ok (.aload_n 0, 1) := by decide +kernel
theorem d_M_operand_50 : decode c_M_operand 50 = .ok (.getfield 62, 3) := by decide +kernel
theorem d_M_operand_53 : decode c_M_operand 53 = .ok (.ireturn, 1) := by decide +kernel
theorem d_M_operand_54 : decode c_M_operand 54 = .ok (.aload_n 0, 1) := by decide +kernel
theorem d_M_operand_55 : decode c_M_operand 55 = .ok (.getfield 62, 3) := by decide +kernel
theorem d_M_operand_58 : decode c_M_operand 58 = .ok (.aload_n 0, 1) := by decide +kernel
theorem d_M_operand_59 : decode c_M_operand 59 = .ok (.getfield 65, 3) := by decide +kernel
theorem d_M_operand_62 : decode c_M_operand 62 = .ok (.iadd, 1) := by decide +kernel
theorem d_M_operand_63 : decode c_M_operand 63 = .ok (.sipush 255, 3) := by decide +kernel
theorem d_M_operand_66 : decode c_M_operand 66 = .ok (.iand, 1) := by decide +kernel
theorem d_M_operand_67 : decode c_M_operand 67 = .ok (.ireturn, 1) := by decide +kernel
theorem d_M_operand_68 : decode c_M_operand 68 = .ok (.aload_n 0, 1) := by decide +kernel
theorem d_M_operand_69 : decode c_M_operand 69 = .ok (.getfield 62, 3) := by decide +kernel
theorem d_M_operand_72 : decode c_M_operand 72 = .ok (.aload_n 0, 1) := by decide +kernel
theorem d_M_operand_73 : decode c_M_operand 73 = .ok (.getfield 68, 3) := by decide +kernel
theorem d_M_operand_76 : decode c_M_operand 76 = .ok (.bipush 8, 2) := by decide +kernel
theorem d_M_operand_78 : decode c_M_operand 78 = .ok (.ishl, 1) := by decide +kernel
theorem d_M_operand_79 : decode c_M_operand 79 = .ok (.ior, 1) := by decide +kernel
theorem d_M_operand_80 : decode c_M_operand 80 = .ok (.ireturn, 1) := by decide +kernel
theorem d_M_operand_81 : decode c_M_operand 81 = .ok (.aload_n 0, 1) := by decide +kernel
theorem d_M_operand_82 : decode c_M_operand 82 = .ok (.getfield 62, 3) := by decide +kernel
theorem d_M_operand_85 : decode c_M_operand 85 = .ok (.aload_n 0, 1) := by decide +kernel
theorem d_M_operand_86 : decode c_M_operand 86 = .ok (.getfield 68, 3) := by decide +kernel
theorem d_M_operand_89 : decode c_M_operand 89 = .ok (.bipush 8, 2) := by decide +kernel
theorem d_M_operand_91 : decode c_M_operand 91 = .ok (.ishl, 1) := by decide +kernel
theorem d_M_operand_92 : decode c_M_operand 92 = .ok (.ior, 1) := by decide +kernel
theorem d_M_operand_93 : decode c_M_operand 93 = .ok (.aload_n 0, 1) := by decide +kernel
