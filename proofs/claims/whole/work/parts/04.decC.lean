/-! decode rows (printed by my own program) -/
theorem d_C_init_0 : decode c_C_init 0 = .ok (.aload_n 0, 1) := by decide +kernel
theorem d_C_init_1 : decode c_C_init 1 = .ok (.invokespecial 1, 3) := by decide +kernel
theorem d_C_init_4 : decode c_C_init 4 = .ok (.aload_n 0, 1) := by decide +kernel
theorem d_C_init_5 : decode c_C_init 5 = .ok (.sipush 1024, 3) := by decide +kernel
theorem d_C_init_8 : decode c_C_init 8 = .ok (.newarray .int, 2) := by decide +kernel
theorem d_C_init_10 : decode c_C_init 10 = .ok (.putfield 9, 3) := by decide +kernel
theorem d_C_init_13 : decode c_C_init 13 = .ok (.aload_n 0, 1) := by decide +kernel
theorem d_C_init_14 : decode c_C_init 14 = .ok (.iconst 4, 1) := by decide +kernel
theorem d_C_init_15 : decode c_C_init 15 = .ok (.newarray .boolean, 2) := by decide +kernel
theorem d_C_init_17 : decode c_C_init 17 = .ok (.putfield 13, 3) := by decide +kernel
theorem d_C_init_20 : decode c_C_init 20 = .ok (.aload_n 0, 1) := by decide +kernel
theorem d_C_init_21 : decode c_C_init 21 = .ok (.getfield 13, 3) := by decide +kernel
theorem d_C_init_24 : decode c_C_init 24 = .ok (.iconst 2, 1) := by decide +kernel
theorem d_C_init_25 : decode c_C_init 25 = .ok (.iconst 1, 1) := by decide +kernel
theorem d_C_init_26 : decode c_C_init 26 = .ok (.bastore, 1) := by decide +kernel
theorem d_C_init_27 : decode c_C_init 27 = .ok (.aload_n 0, 1) := by decide +kernel
theorem d_C_init_28 : decode c_C_init 28 = .ok (.new 17, 3) := by decide +kernel
theorem d_C_init_31 : decode c_C_init 31 = .ok (.dup, 1) := by decide +kernel
theorem d_C_init_32 : decode c_C_init 32 = .ok (.invokespecial 19, 3) := by decide +kernel
theorem d_C_init_35 : decode c_C_init 35 = .ok (.putfield 20, 3) := by decide +kernel
theorem d_C_init_38 : decode c_C_init 38 = .ok (.aload_n 0, 1) := by decide +kernel
theorem d_C_init_39 : decode c_C_init 39 = .ok (.getstatic 24, 3) := by decide +kernel
theorem d_C_init_42 : decode c_C_init 42 = .ok (.putfield 30, 3) := by decide +kernel
theorem d_C_init_45 : decode c_C_init 45 = .ok (.aload_n 0, 1) := by decide +kernel
theorem d_C_init_46 : decode c_C_init 46 = .ok (.getstatic 33, 3) := by decide +kernel
theorem d_C_init_49 : decode c_C_init 49 = .ok (.putfield 39, 3) := by decide +kernel
theorem d_C_init_52 : decode c_C_init 52 = .ok (.return_, 1) := by decide +kernel
theorem d_C_poke_0 : decode c_C_poke 0 = .ok (.aload_n 0, 1) := by decide +kernel
theorem d_C_poke_1 : decode c_C_poke 1 = .ok (.getfield 9, 3) := by decide +kernel
theorem d_C_poke_4 : decode c_C_poke 4 = .ok (.iload_n 1, 1) := by decide +kernel
theorem d_C_poke_5 : decode c_C_poke 5 = .ok (.sipush 1023, 3) := by decide +kernel
theorem d_C_poke_8 : decode c_C_poke 8 = .ok (.iand, 1) := by decide +kernel
theorem d_C_poke_9 : decode c_C_poke 9 = .ok (.iaload, 1) := by decide +kernel
theorem d_C_poke_10 : decode c_C_poke 10 = .ok (.istore_n 3, 1) := by decide +kernel
theorem d_C_poke_11 : decode c_C_poke 11 = .ok (.aload_n 0, 1) := by decide +kernel
theorem d_C_poke_12 : decode c_C_poke 12 = .ok (.getfield 9, 3) := by decide +kernel
theorem d_C_poke_15 : decode c_C_poke 15 = .ok (.iload_n 1, 1) := by decide +kernel
theorem d_C_poke_16 : decode c_C_poke 16 = .ok (.sipush 1023, 3) := by decide +kernel
theorem d_C_poke_19 : decode c_C_poke 19 = .ok (.iand, 1) := by decide +kernel
theorem d_C_poke_20 : decode c_C_poke 20 = .ok (.iload_n 2, 1) := by decide +kernel
theorem d_C_poke_21 : decode c_C_poke 21 = .ok (.sipush 255, 3) := by decide +kernel
theorem d_C_poke_24 : decode c_C_poke 24 = .ok (.iand, 1) := by decide +kernel
theorem d_C_poke_25 : decode c_C_poke 25 = .ok (.iastore, 1) := by decide +kernel
theorem d_C_poke_26 : decode c_C_poke 26 = .ok (.iload_n 3, 1) := by decide +kernel
theorem d_C_poke_27 : decode c_C_poke 27 = .ok (.ireturn, 1) := by decide +kernel
theorem d_C_peek_0 : decode c_C_peek 0 = .ok (.aload_n 0, 1) := by decide +kernel
theorem d_C_peek_1 : decode c_C_peek 1 = .ok (.getfield 9, 3) := by decide +kernel
theorem d_C_peek_4 : decode c_C_peek 4 = .ok (.iload_n 1, 1) := by decide +kernel
theorem d_C_peek_5 : decode c_C_peek 5 = .ok (.sipush 1023, 3) := by decide +kernel
theorem d_C_peek_8 : decode c_C_peek 8 = .ok (.iand, 1) := by decide +kernel
theorem d_C_peek_9 : decode c_C_peek 9 = .ok (.iaload, 1) := by decide +kernel
theorem d_C_peek_10 : decode c_C_peek 10 = .ok (.ireturn, 1) := by decide +kernel
theorem d_C_cycle_0 : decode c_C_cycle 0 = .ok (.aload_n 0, 1) := by decide +kernel
theorem d_C_cycle_1 : decode c_C_cycle 1 = .ok (.invokevirtual 42, 3) := by decide +kernel
theorem d_C_cycle_4 : decode c_C_cycle 4 = .ok (.ireturn, 1) := by decide +kernel
theorem d_C_runCycle_0 : decode c_C_runCycle 0 = .ok (.aload_n 0, 1) := by decide +kernel
theorem d_C_runCycle_1 : decode c_C_runCycle 1 = .ok (.invokevirtual 109, 3) := by decide +kernel
theorem d_C_runCycle_4 : decode c_C_runCycle 4 = .ok (.istore_n 1, 1) := by decide +kernel
theorem d_C_runCycle_5 : decode c_C_runCycle 5 = .ok (.aload_n 0, 1) := by decide +kernel
theorem d_C_runCycle_6 : decode c_C_runCycle 6 = .ok (.getfield 30, 3) := by decide +kernel
theorem d_C_runCycle_9 : decode c_C_runCycle 9 = .ok (.getfield 112, 3) := by decide +kernel
theorem d_C_runCycle_12 : decode c_C_runCycle 12 = .ok (.ifCond .eq 45, 3) := by decide +kernel
theorem d_C_runCycle_15 : decode c_C_runCycle 15 = .ok (.aload_n 0, 1) := by decide +kernel
theorem d_C_runCycle_16 : decode c_C_runCycle 16 = .ok (.invokevirtual 115, 3) := by decide +kernel
theorem d_C_runCycle_19 : decode c_C_runCycle 19 = .ok (.istore_n 2, 1) := by decide +kernel
theorem d_C_runCycle_20 : decode c_C_runCycle 20 = .ok (.aload_n 0, 1) := by decide +kernel
theorem d_C_runCycle_21 : decode c_C_runCycle 21 = .ok (.getfield 9, 3) := by decide +kernel
theorem d_C_runCycle_24 : decode c_C_runCycle 24 = .ok (.iload_n 1, 1) := by decide +kernel
theorem d_C_runCycle_25 : decode c_C_runCycle 25 = .ok (.sipush 1023, 3) := by decide +kernel
theorem d_C_runCycle_28 : decode c_C_runCycle 28 = .ok (.iand, 1) := by decide +kernel
theorem d_C_runCycle_29 : decode c_C_runCycle 29 = .ok (.iload_n 2, 1) := by decide +kernel
theorem d_C_runCycle_30 : decode c_C_runCycle 30 = .ok (.iastore, 1) := by decide +kernel
theorem d_C_runCycle_31 : decode c_C_runCycle 31 = .ok (.aload_n 0, 1) := by decide +kernel
theorem d_C_runCycle_32 : decode c_C_runCycle 32 = .ok (.dup, 1) := by decide +kernel
theorem d_C_runCycle_33 : decode c_C_runCycle 33 = .ok (.getfield 95, 3) := by decide +kernel
theorem d_C_runCycle_36 : decode c_C_runCycle 36 = .ok (.iconst 1, 1) := by decide +kernel
theorem d_C_runCycle_37 : decode c_C_runCycle 37 = .ok (.iadd, 1) := by decide +kernel
theorem d_C_runCycle_38 : decode c_C_runCycle 38 = .ok (.putfield 95, 3) := by decide +kernel
theorem d_C_runCycle_41 : decode c_C_runCycle 41 = .ok (.aload_n 0, 1) := by decide +kernel
theorem d_C_runCycle_42 : decode c_C_runCycle 42 = .ok (.invokevirtual 118, 3) := by decide +kernel
theorem d_C_runCycle_45 : decode c_C_runCycle 45 = .ok (.sipush 512, 3) := by decide +kernel
theorem d_C_runCycle_48 : decode c_C_runCycle 48 = .ok (.iload_n 1, 1) := by decide +kernel
theorem d_C_runCycle_49 : decode c_C_runCycle 49 = .ok (.imul, 1) := by decide +kernel
theorem d_C_runCycle_50 : decode c_C_runCycle 50 = .ok (.sipush 256, 3) := by decide +kernel
theorem d_C_runCycle_53 : decode c_C_runCycle 53 = .ok (.iadd, 1) := by decide +kernel
theorem d_C_runCycle_54 : decode c_C_runCycle 54 = .ok (.iload_n 2, 1) := by decide +kernel
theorem d_C_runCycle_55 : decode c_C_runCycle 55 = .ok (.iadd, 1) := by decide +kernel
theorem d_C_runCycle_56 : decode c_C_runCycle 56 = .ok (.ireturn, 1) := by decide +kernel
theorem d_C_runCycle_57 : decode c_C_runCycle 57 = .ok (.aload_n 0, 1) := by decide +kernel
theorem d_C_runCycle_58 : decode c_C_runCycle 58 = .ok (.getfield 9, 3) := by decide +kernel
theorem d_C_runCycle_61 : decode c_C_runCycle 61 = .ok (.iload_n 1, 1) := by decide +kernel
theorem d_C_runCycle_62 : decode c_C_runCycle 62 = .ok (.sipush 1023, 3) := by decide +kernel
theorem d_C_runCycle_65 : decode c_C_runCycle 65 = .ok (.iand, 1) := by decide +kernel
theorem d_C_runCycle_66 : decode c_C_runCycle 66 = .ok (.iaload, 1) := by decide +kernel
theorem d_C_runCycle_67 : decode c_C_runCycle 67 = .ok (.istore_n 2, 1) := by decide +kernel
theorem d_C_runCycle_68 : decode c_C_runCycle 68 = .ok (.aload_n 0, 1) := by decide +kernel
theorem d_C_runCycle_69 : decode c_C_runCycle 69 = .ok (.getfield 13, 3) := by decide +kernel
theorem d_C_runCycle_72 : decode c_C_runCycle 72 = .ok (.iconst 2, 1) := by decide +kernel
theorem d_C_runCycle_73 : decode c_C_runCycle 73 = .ok (.baload, 1) := by decide +kernel
theorem d_C_runCycle_74 : decode c_C_runCycle 74 = .ok (.ifCond .eq 18, 3) := by decide +kernel
theorem d_C_runCycle_77 : decode c_C_runCycle 77 = .ok (.aload_n 0, 1) := by decide +kernel
theorem d_C_runCycle_78 : decode c_C_runCycle 78 = .ok (.dup, 1) := by decide +kernel
theorem d_C_runCycle_79 : decode c_C_runCycle 79 = .ok (.getfield 95, 3) := by decide +kernel
theorem d_C_runCycle_82 : decode c_C_runCycle 82 = .ok (.iconst 1, 1) := by decide +kernel
theorem d_C_runCycle_83 : decode c_C_runCycle 83 = .ok (.iadd, 1) := by decide +kernel
theorem d_C_runCycle_84 : decode c_C_runCycle 84 = .ok (.putfield 95, 3) := by decide +kernel
theorem d_C_runCycle_87 : decode c_C_runCycle 87 = .ok (.aload_n 0, 1) := by decide +kernel
theorem d_C_runCycle_88 : decode c_C_runCycle 88 = .ok (.iload_n 2, 1) := by decide +kernel
theorem d_C_runCycle_89 : decode c_C_runCycle 89 = .ok (.invokevirtual 121, 3) := by decide +kernel
theorem d_C_runCycle_92 : decode c_C_runCycle 92 = .ok (.sipush 512, 3) := by decide +kernel
theorem d_C_runCycle_95 : decode c_C_runCycle 95 = .ok (.iload_n 1, 1) := by decide +kernel
theorem d_C_runCycle_96 : decode c_C_runCycle 96 = .ok (.imul, 1) := by decide +kernel
theorem d_C_runCycle_97 : decode c_C_runCycle 97 = .ok (.iload_n 2, 1) := by decide +kernel
theorem d_C_runCycle_98 : decode c_C_runCycle 98 = .ok (.iadd, 1) := by decide +kernel
theorem d_C_runCycle_99 : decode c_C_runCycle 99 = .ok (.ireturn, 1) := by decide +kernel
theorem d_C_addressOfStep_0 : decode c_C_addressOfStep 0 = .ok (.aload_n 0, 1) := by decide +kernel
theorem d_C_addressOfStep_1 : decode c_C_addressOfStep 1 = .ok (.getfield 30, 3) := by decide +kernel
theorem d_C_addressOfStep_4 : decode c_C_addressOfStep 4 = .ok (.getfield 124, 3) := by decide +kernel
theorem d_C_addressOfStep_7 : decode c_C_addressOfStep 7 = .ok (.tableswitch 105 1 6 #[37, 44, 58, 78, 95, 100], 37) := by decide +kernel
theorem d_C_addressOfStep_44 : decode c_C_addressOfStep 44 = .ok (.aload_n 0, 1) := by decide +kernel
theorem d_C_addressOfStep_45 : decode c_C_addressOfStep 45 = .ok (.getfield 127, 3) := by decide +kernel
theorem d_C_addressOfStep_48 : decode c_C_addressOfStep 48 = .ok (.goto 71, 3) := by decide +kernel
theorem d_C_addressOfStep_51 : decode c_C_addressOfStep 51 = .ok (.sipush 256, 3) := by decide +kernel
theorem d_C_addressOfStep_54 : decode c_C_addressOfStep 54 = .ok (.aload_n 0, 1) := by decide +kernel
theorem d_C_addressOfStep_55 : decode c_C_addressOfStep 55 = .ok (.getfield 20, 3) := by decide +kernel
theorem d_C_addressOfStep_58 : decode c_C_addressOfStep 58 = .ok (.getfield 83, 3) := by decide +kernel
theorem d_C_addressOfStep_61 : decode c_C_addressOfStep 61 = .ok (.iadd, 1) := by decide +kernel
theorem d_C_addressOfStep_62 : decode c_C_addressOfStep 62 = .ok (.goto 57, 3) := by decide +kernel
theorem d_C_addressOfStep_65 : decode c_C_addressOfStep 65 = .ok (.sipush 256, 3) := by decide +kernel
theorem d_C_addressOfStep_68 : decode c_C_addressOfStep 68 = .ok (.aload_n 0, 1) := by decide +kernel
theorem d_C_addressOfStep_69 : decode c_C_addressOfStep 69 = .ok (.getfield 20, 3) := by decide +kernel
theorem d_C_addressOfStep_72 : decode c_C_addressOfStep 72 = .ok (.getfield 83, 3) := by decide +kernel
theorem d_C_addressOfStep_75 : decode c_C_addressOfStep 75 = .ok (.iconst 1, 1) := by decide +kernel
theorem d_C_addressOfStep_76 : decode c_C_addressOfStep 76 = .ok (.iadd, 1) := by decide +kernel
theorem d_C_addressOfStep_77 : decode c_C_addressOfStep 77 = .ok (.sipush 255, 3) := by decide +kernel
theorem d_C_addressOfStep_80 : decode c_C_addressOfStep 80 = .ok (.iand, 1) := by decide +kernel
theorem d_C_addressOfStep_81 : decode c_C_addressOfStep 81 = .ok (.iadd, 1) := by decide +kernel
theorem d_C_addressOfStep_82 : decode c_C_addressOfStep 82 = .ok (.goto 37, 3) := by decide +kernel
theorem d_C_addressOfStep_85 : decode c_C_addressOfStep 85 = .ok (.aload_n 0, 1) := by decide +kernel
theorem d_C_addressOfStep_86 : decode c_C_addressOfStep 86 = .ok (.getfield 60, 3) := by decide +kernel
theorem d_C_addressOfStep_89 : decode c_C_addressOfStep 89 = .ok (.ifCond .eq 8, 3) := by decide +kernel
theorem d_C_addressOfStep_92 : decode c_C_addressOfStep 92 = .ok (.ldc 130, 2) := by decide +kernel
theorem d_C_addressOfStep_94 : decode c_C_addressOfStep 94 = .ok (.goto 25, 3) := by decide +kernel
theorem d_C_addressOfStep_97 : decode c_C_addressOfStep 97 = .ok (.ldc 131, 2) := by decide +kernel
theorem d_C_addressOfStep_99 : decode c_C_addressOfStep 99 = .ok (.goto 20, 3) := by decide +kernel
theorem d_C_addressOfStep_102 : decode c_C_addressOfStep 102 = .ok (.ldc 132, 2) := by decide +kernel
theorem d_C_addressOfStep_104 : decode c_C_addressOfStep 104 = .ok (.goto 15, 3) := by decide +kernel
theorem d_C_addressOfStep_107 : decode c_C_addressOfStep 107 = .ok (.ldc 101, 2) := by decide +kernel
theorem d_C_addressOfStep_109 : decode c_C_addressOfStep 109 = .ok (.goto 10, 3) := by decide +kernel
theorem d_C_addressOfStep_112 : decode c_C_addressOfStep 112 = .ok (.aload_n 0, 1) := by decide +kernel
theorem d_C_addressOfStep_113 : decode c_C_addressOfStep 113 = .ok (.getfield 20, 3) := by decide +kernel
theorem d_C_addressOfStep_116 : decode c_C_addressOfStep 116 = .ok (.getfield 86, 3) := by decide +kernel
theorem d_C_addressOfStep_119 : decode c_C_addressOfStep 119 = .ok (.ireturn, 1) := by decide +kernel
theorem d_C_byteToWrite_0 : decode c_C_byteToWrite 0 = .ok (.getstatic 133, 3) := by decide +kernel
theorem d_C_byteToWrite_3 : decode c_C_byteToWrite 3 = .ok (.aload_n 0, 1) := by decide +kernel
theorem d_C_byteToWrite_4 : decode c_C_byteToWrite 4 = .ok (.getfield 30, 3) := by decide +kernel
theorem d_C_byteToWrite_7 : decode c_C_byteToWrite 7 = .ok (.invokevirtual 138, 3) := by decide +kernel
theorem d_C_byteToWrite_10 : decode c_C_byteToWrite 10 = .ok (.iaload, 1) := by decide +kernel
theorem d_C_byteToWrite_11 : decode c_C_byteToWrite 11 = .ok (.tableswitch 165 1 7 #[41, 51, 58, 76, 105, 118, 132], 41) := by decide +kernel
theorem d_C_byteToWrite_52 : decode c_C_byteToWrite 52 = .ok (.aload_n 0, 1) := by decide +kernel
theorem d_C_byteToWrite_53 : decode c_C_byteToWrite 53 = .ok (.getfield 20, 3) := by decide +kernel
theorem d_C_byteToWrite_56 : decode c_C_byteToWrite 56 = .ok (.getfield 74, 3) := by decide +kernel
theorem d_C_byteToWrite_59 : decode c_C_byteToWrite 59 = .ok (.goto 118, 3) := by decide +kernel
theorem d_C_byteToWrite_62 : decode c_C_byteToWrite 62 = .ok (.aload_n 0, 1) := by decide +kernel
theorem d_C_byteToWrite_63 : decode c_C_byteToWrite 63 = .ok (.getfield 141, 3) := by decide +kernel
theorem d_C_byteToWrite_66 : decode c_C_byteToWrite 66 = .ok (.goto 111, 3) := by decide +kernel
theorem d_C_byteToWrite_69 : decode c_C_byteToWrite 69 = .ok (.aload_n 0, 1) := by decide +kernel
theorem d_C_byteToWrite_70 : decode c_C_byteToWrite 70 = .ok (.getfield 20, 3) := by decide +kernel
theorem d_C_byteToWrite_73 : decode c_C_byteToWrite 73 = .ok (.aload_n 0, 1) := by decide +kernel
theorem d_C_byteToWrite_74 : decode c_C_byteToWrite 74 = .ok (.getfield 144, 3) := by decide +kernel
theorem d_C_byteToWrite_77 : decode c_C_byteToWrite 77 = .ok (.aload_n 0, 1) := by decide +kernel
theorem d_C_byteToWrite_78 : decode c_C_byteToWrite 78 = .ok (.getfield 141, 3) := by decide +kernel
theorem d_C_byteToWrite_81 : decode c_C_byteToWrite 81 = .ok (.invokevirtual 147, 3) := by decide +kernel
theorem d_C_byteToWrite_84 : decode c_C_byteToWrite 84 = .ok (.goto 93, 3) := by decide +kernel
theorem d_C_byteToWrite_87 : decode c_C_byteToWrite 87 = .ok (.aload_n 0, 1) := by decide +kernel
theorem d_C_byteToWrite_88 : decode c_C_byteToWrite 88 = .ok (.getfield 144, 3) := by decide +kernel
theorem d_C_byteToWrite_91 : decode c_C_byteToWrite 91 = .ok (.bipush 16, 2) := by decide +kernel
theorem d_C_byteToWrite_93 : decode c_C_byteToWrite 93 = .ok (.if_icmp .ne 13, 3) := by decide +kernel
theorem d_C_byteToWrite_96 : decode c_C_byteToWrite 96 = .ok (.aload_n 0, 1) := by decide +kernel
theorem d_C_byteToWrite_97 : decode c_C_byteToWrite 97 = .ok (.getfield 20, 3) := by decide +kernel
theorem d_C_byteToWrite_100 : decode c_C_byteToWrite 100 = .ok (.getfield 74, 3) := by decide +kernel
theorem d_C_byteToWrite_103 : decode c_C_byteToWrite 103 = .ok (.goto 74, 3) := by decide +kernel
theorem d_C_byteToWrite_106 : decode c_C_byteToWrite 106 = .ok (.aload_n 0, 1) := by decide +kernel
theorem d_C_byteToWrite_107 : decode c_C_byteToWrite 107 = .ok (.getfield 20, 3) := by decide +kernel
theorem d_C_byteToWrite_110 : decode c_C_byteToWrite 110 = .ok (.invokevirtual 89, 3) := by decide +kernel
theorem d_C_byteToWrite_113 : decode c_C_byteToWrite 113 = .ok (.goto 64, 3) := by decide +kernel
theorem d_C_byteToWrite_116 : decode c_C_byteToWrite 116 = .ok (.aload_n 0, 1) := by decide +kernel
theorem d_C_byteToWrite_117 : decode c_C_byteToWrite 117 = .ok (.getfield 20, 3) := by decide +kernel
theorem d_C_byteToWrite_120 : decode c_C_byteToWrite 120 = .ok (.getfield 86, 3) := by decide +kernel
theorem d_C_byteToWrite_123 : decode c_C_byteToWrite 123 = .ok (.bipush 8, 2) := by decide +kernel
theorem d_C_byteToWrite_125 : decode c_C_byteToWrite 125 = .ok (.ishr, 1) := by decide +kernel
theorem d_C_byteToWrite_126 : decode c_C_byteToWrite 126 = .ok (.goto 51, 3) := by decide +kernel
theorem d_C_byteToWrite_129 : decode c_C_byteToWrite 129 = .ok (.aload_n 0, 1) := by decide +kernel
theorem d_C_byteToWrite_130 : decode c_C_byteToWrite 130 = .ok (.getfield 20, 3) := by decide +kernel
theorem d_C_byteToWrite_133 : decode c_C_byteToWrite 133 = .ok (.getfield 86, 3) := by decide +kernel
theorem d_C_byteToWrite_136 : decode c_C_byteToWrite 136 = .ok (.sipush 255, 3) := by decide +kernel
theorem d_C_byteToWrite_139 : decode c_C_byteToWrite 139 = .ok (.iand, 1) := by decide +kernel
theorem d_C_byteToWrite_140 : decode c_C_byteToWrite 140 = .ok (.goto 37, 3) := by decide +kernel
theorem d_C_byteToWrite_143 : decode c_C_byteToWrite 143 = .ok (.aload_n 0, 1) := by decide +kernel
theorem d_C_byteToWrite_144 : decode c_C_byteToWrite 144 = .ok (.getfield 39, 3) := by decide +kernel
theorem d_C_byteToWrite_147 : decode c_C_byteToWrite 147 = .ok (.getstatic 151, 3) := by decide +kernel
theorem d_C_byteToWrite_150 : decode c_C_byteToWrite 150 = .ok (.if_acmp .ne 16, 3) := by decide +kernel
theorem d_C_byteToWrite_153 : decode c_C_byteToWrite 153 = .ok (.aload_n 0, 1) := by decide +kernel
theorem d_C_byteToWrite_154 : decode c_C_byteToWrite 154 = .ok (.getfield 20, 3) := by decide +kernel
theorem d_C_byteToWrite_157 : decode c_C_byteToWrite 157 = .ok (.invokevirtual 89, 3) := by decide +kernel
theorem d_C_byteToWrite_160 : decode c_C_byteToWrite 160 = .ok (.bipush 16, 2) := by decide +kernel
theorem d_C_byteToWrite_162 : decode c_C_byteToWrite 162 = .ok (.iadd, 1) := by decide +kernel
theorem d_C_byteToWrite_163 : decode c_C_byteToWrite 163 = .ok (.goto 14, 3) := by decide +kernel
theorem d_C_byteToWrite_166 : decode c_C_byteToWrite 166 = .ok (.aload_n 0, 1) := by decide +kernel
theorem d_C_byteToWrite_167 : decode c_C_byteToWrite 167 = .ok (.getfield 20, 3) := by decide +kernel
theorem d_C_byteToWrite_170 : decode c_C_byteToWrite 170 = .ok (.invokevirtual 89, 3) := by decide +kernel
theorem d_C_byteToWrite_173 : decode c_C_byteToWrite 173 = .ok (.goto 4, 3) := by decide +kernel
theorem d_C_byteToWrite_176 : decode c_C_byteToWrite 176 = .ok (.iconst 0, 1) := by decide +kernel
theorem d_C_byteToWrite_177 : decode c_C_byteToWrite 177 = .ok (.ireturn, 1) := by decide +kernel
theorem d_C_afterWrite_0 : decode c_C_afterWrite 0 = .ok (.getstatic 133, 3) := by decide +kernel
theorem d_C_afterWrite_3 : decode c_C_afterWrite 3 = .ok (.aload_n 0, 1) := by decide +kernel
theorem d_C_afterWrite_4 : decode c_C_afterWrite 4 = .ok (.getfield 30, 3) := by decide +kernel
theorem d_C_afterWrite_7 : decode c_C_afterWrite 7 = .ok (.invokevirtual 138, 3) := by decide +kernel
theorem d_C_afterWrite_10 : decode c_C_afterWrite 10 = .ok (.iaload, 1) := by decide +kernel
theorem d_C_afterWrite_11 : decode c_C_afterWrite 11 = .ok (.tableswitch 163 2 7 #[37, 47, 69, 84, 102, 136], 37) := by decide +kernel
theorem d_C_afterWrite_48 : decode c_C_afterWrite 48 = .ok (.aload_n 0, 1) := by decide +kernel
theorem d_C_afterWrite_49 : decode c_C_afterWrite 49 = .ok (.getstatic 154, 3) := by decide +kernel
theorem d_C_afterWrite_52 : decode c_C_afterWrite 52 = .ok (.putfield 30, 3) := by decide +kernel
theorem d_C_afterWrite_55 : decode c_C_afterWrite 55 = .ok (.goto 123, 3) := by decide +kernel
theorem d_C_afterWrite_58 : decode c_C_afterWrite 58 = .ok (.aload_n 0, 1) := by decide +kernel
theorem d_C_afterWrite_59 : decode c_C_afterWrite 59 = .ok (.getfield 20, 3) := by decide +kernel
theorem d_C_afterWrite_62 : decode c_C_afterWrite 62 = .ok (.aload_n 0, 1) := by decide +kernel
theorem d_C_afterWrite_63 : decode c_C_afterWrite 63 = .ok (.getfield 144, 3) := by decide +kernel
theorem d_C_afterWrite_66 : decode c_C_afterWrite 66 = .ok (.aload_n 0, 1) := by decide +kernel
theorem d_C_afterWrite_67 : decode c_C_afterWrite 67 = .ok (.getfield 141, 3) := by decide +kernel
theorem d_C_afterWrite_70 : decode c_C_afterWrite 70 = .ok (.invokevirtual 157, 3) := by decide +kernel
theorem d_C_afterWrite_73 : decode c_C_afterWrite 73 = .ok (.aload_n 0, 1) := by decide +kernel
theorem d_C_afterWrite_74 : decode c_C_afterWrite 74 = .ok (.invokevirtual 161, 3) := by decide +kernel
theorem d_C_afterWrite_77 : decode c_C_afterWrite 77 = .ok (.goto 101, 3) := by decide +kernel
theorem d_C_afterWrite_80 : decode c_C_afterWrite 80 = .ok (.aload_n 0, 1) := by decide +kernel
theorem d_C_afterWrite_81 : decode c_C_afterWrite 81 = .ok (.getfield 20, 3) := by decide +kernel
theorem d_C_afterWrite_84 : decode c_C_afterWrite 84 = .ok (.iconst (-1), 1) := by decide +kernel
theorem d_C_afterWrite_85 : decode c_C_afterWrite 85 = .ok (.invokevirtual 164, 3) := by decide +kernel
theorem d_C_afterWrite_88 : decode c_C_afterWrite 88 = .ok (.aload_n 0, 1) := by decide +kernel
theorem d_C_afterWrite_89 : decode c_C_afterWrite 89 = .ok (.invokevirtual 161, 3) := by decide +kernel
theorem d_C_afterWrite_92 : decode c_C_afterWrite 92 = .ok (.goto 86, 3) := by decide +kernel
theorem d_C_afterWrite_95 : decode c_C_afterWrite 95 = .ok (.aload_n 0, 1) := by decide +kernel
theorem d_C_afterWrite_96 : decode c_C_afterWrite 96 = .ok (.getfield 20, 3) := by decide +kernel
theorem d_C_afterWrite_99 : decode c_C_afterWrite 99 = .ok (.iconst (-1), 1) := by decide +kernel
theorem d_C_afterWrite_100 : decode c_C_afterWrite 100 = .ok (.invokevirtual 164, 3) := by decide +kernel
theorem d_C_afterWrite_103 : decode c_C_afterWrite 103 = .ok (.aload_n 0, 1) := by decide +kernel
theorem d_C_afterWrite_104 : decode c_C_afterWrite 104 = .ok (.getstatic 167, 3) := by decide +kernel
theorem d_C_afterWrite_107 : decode c_C_afterWrite 107 = .ok (.putfield 30, 3) := by decide +kernel
theorem d_C_afterWrite_110 : decode c_C_afterWrite 110 = .ok (.goto 68, 3) := by decide +kernel
theorem d_C_afterWrite_113 : decode c_C_afterWrite 113 = .ok (.aload_n 0, 1) := by decide +kernel
theorem d_C_afterWrite_114 : decode c_C_afterWrite 114 = .ok (.getfield 20, 3) := by decide +kernel
theorem d_C_afterWrite_117 : decode c_C_afterWrite 117 = .ok (.iconst (-1), 1) := by decide +kernel
theorem d_C_afterWrite_118 : decode c_C_afterWrite 118 = .ok (.invokevirtual 164, 3) := by decide +kernel
theorem d_C_afterWrite_121 : decode c_C_afterWrite 121 = .ok (.aload_n 0, 1) := by decide +kernel
theorem d_C_afterWrite_122 : decode c_C_afterWrite 122 = .ok (.aload_n 0, 1) := by decide +kernel
theorem d_C_afterWrite_123 : decode c_C_afterWrite 123 = .ok (.getfield 39, 3) := by decide +kernel
theorem d_C_afterWrite_126 : decode c_C_afterWrite 126 = .ok (.getstatic 170, 3) := by decide +kernel
theorem d_C_afterWrite_129 : decode c_C_afterWrite 129 = .ok (.if_acmp .ne 9, 3) := by decide +kernel
theorem d_C_afterWrite_132 : decode c_C_afterWrite 132 = .ok (.getstatic 173, 3) := by decide +kernel
theorem d_C_afterWrite_135 : decode c_C_afterWrite 135 = .ok (.goto 6, 3) := by decide +kernel
theorem d_C_afterWrite_138 : decode c_C_afterWrite 138 = .ok (.getstatic 176, 3) := by decide +kernel
theorem d_C_afterWrite_141 : decode c_C_afterWrite 141 = .ok (.putfield 30, 3) := by decide +kernel
theorem d_C_afterWrite_144 : decode c_C_afterWrite 144 = .ok (.goto 34, 3) := by decide +kernel
theorem d_C_afterWrite_147 : decode c_C_afterWrite 147 = .ok (.aload_n 0, 1) := by decide +kernel
theorem d_C_afterWrite_148 : decode c_C_afterWrite 148 = .ok (.getfield 20, 3) := by decide +kernel
theorem d_C_afterWrite_151 : decode c_C_afterWrite 151 = .ok (.iconst (-1), 1) := by decide +kernel
theorem d_C_afterWrite_152 : decode c_C_afterWrite 152 = .ok (.invokevirtual 164, 3) := by decide +kernel
theorem d_C_afterWrite_155 : decode c_C_afterWrite 155 = .ok (.aload_n 0, 1) := by decide +kernel
theorem d_C_afterWrite_156 : decode c_C_afterWrite 156 = .ok (.getfield 20, 3) := by decide +kernel
theorem d_C_afterWrite_159 : decode c_C_afterWrite 159 = .ok (.iconst 4, 1) := by decide +kernel
theorem d_C_afterWrite_160 : decode c_C_afterWrite 160 = .ok (.iconst 1, 1) := by decide +kernel
theorem d_C_afterWrite_161 : decode c_C_afterWrite 161 = .ok (.invokevirtual 105, 3) := by decide +kernel
theorem d_C_afterWrite_164 : decode c_C_afterWrite 164 = .ok (.aload_n 0, 1) := by decide +kernel
theorem d_C_afterWrite_165 : decode c_C_afterWrite 165 = .ok (.getstatic 179, 3) := by decide +kernel
theorem d_C_afterWrite_168 : decode c_C_afterWrite 168 = .ok (.putfield 30, 3) := by decide +kernel
theorem d_C_afterWrite_171 : decode c_C_afterWrite 171 = .ok (.goto 7, 3) := by decide +kernel
theorem d_C_afterWrite_174 : decode c_C_afterWrite 174 = .ok (.aload_n 0, 1) := by decide +kernel
theorem d_C_afterWrite_175 : decode c_C_afterWrite 175 = .ok (.invokevirtual 161, 3) := by decide +kernel
theorem d_C_afterWrite_178 : decode c_C_afterWrite 178 = .ok (.return_, 1) := by decide +kernel
theorem d_C_end_0 : decode c_C_end 0 = .ok (.aload_n 0, 1) := by decide +kernel
theorem d_C_end_1 : decode c_C_end 1 = .ok (.dup, 1) := by decide +kernel
theorem d_C_end_2 : decode c_C_end 2 = .ok (.getfield 49, 3) := by decide +kernel
theorem d_C_end_5 : decode c_C_end 5 = .ok (.iconst 1, 1) := by decide +kernel
theorem d_C_end_6 : decode c_C_end 6 = .ok (.iadd, 1) := by decide +kernel
theorem d_C_end_7 : decode c_C_end 7 = .ok (.putfield 49, 3) := by decide +kernel
theorem d_C_end_10 : decode c_C_end 10 = .ok (.aload_n 0, 1) := by decide +kernel
theorem d_C_end_11 : decode c_C_end 11 = .ok (.getfield 13, 3) := by decide +kernel
theorem d_C_end_14 : decode c_C_end 14 = .ok (.iconst 1, 1) := by decide +kernel
theorem d_C_end_15 : decode c_C_end 15 = .ok (.baload, 1) := by decide +kernel
theorem d_C_end_16 : decode c_C_end 16 = .ok (.ifCond .eq 18, 3) := by decide +kernel
theorem d_C_end_19 : decode c_C_end 19 = .ok (.aload_n 0, 1) := by decide +kernel
theorem d_C_end_20 : decode c_C_end 20 = .ok (.getfield 20, 3) := by decide +kernel
theorem d_C_end_23 : decode c_C_end 23 = .ok (.iconst 4, 1) := by decide +kernel
theorem d_C_end_24 : decode c_C_end 24 = .ok (.invokevirtual 267, 3) := by decide +kernel
theorem d_C_end_27 : decode c_C_end 27 = .ok (.ifCond .ne 7, 3) := by decide +kernel
theorem d_C_end_30 : decode c_C_end 30 = .ok (.iconst 1, 1) := by decide +kernel
theorem d_C_end_31 : decode c_C_end 31 = .ok (.goto 4, 3) := by decide +kernel
theorem d_C_end_34 : decode c_C_end 34 = .ok (.iconst 0, 1) := by decide +kernel
theorem d_C_end_35 : decode c_C_end 35 = .ok (.istore_n 1, 1) := by decide +kernel
theorem d_C_end_36 : decode c_C_end 36 = .ok (.aload_n 0, 1) := by decide +kernel
theorem d_C_end_37 : decode c_C_end 37 = .ok (.getfield 60, 3) := by decide +kernel
theorem d_C_end_40 : decode c_C_end 40 = .ok (.ifCond .ne 7, 3) := by decide +kernel
theorem d_C_end_43 : decode c_C_end 43 = .ok (.iload_n 1, 1) := by decide +kernel
theorem d_C_end_44 : decode c_C_end 44 = .ok (.ifCond .eq 16, 3) := by decide +kernel
theorem d_C_end_47 : decode c_C_end 47 = .ok (.aload_n 0, 1) := by decide +kernel
theorem d_C_end_48 : decode c_C_end 48 = .ok (.getstatic 271, 3) := by decide +kernel
theorem d_C_end_51 : decode c_C_end 51 = .ok (.getstatic 249, 3) := by decide +kernel
theorem d_C_end_54 : decode c_C_end 54 = .ok (.invokevirtual 70, 3) := by decide +kernel
theorem d_C_end_57 : decode c_C_end 57 = .ok (.goto 13, 3) := by decide +kernel
theorem d_C_end_60 : decode c_C_end 60 = .ok (.aload_n 0, 1) := by decide +kernel
theorem d_C_end_61 : decode c_C_end 61 = .ok (.getstatic 33, 3) := by decide +kernel
theorem d_C_end_64 : decode c_C_end 64 = .ok (.getstatic 24, 3) := by decide +kernel
theorem d_C_end_67 : decode c_C_end 67 = .ok (.invokevirtual 70, 3) := by decide +kernel
theorem d_C_end_70 : decode c_C_end 70 = .ok (.return_, 1) := by decide +kernel
theorem d_C_begin_0 : decode c_C_begin 0 = .ok (.aload_n 0, 1) := by decide +kernel
theorem d_C_begin_1 : decode c_C_begin 1 = .ok (.aload_n 1, 1) := by decide +kernel
theorem d_C_begin_2 : decode c_C_begin 2 = .ok (.putfield 39, 3) := by decide +kernel
theorem d_C_begin_5 : decode c_C_begin 5 = .ok (.aload_n 0, 1) := by decide +kernel
theorem d_C_begin_6 : decode c_C_begin 6 = .ok (.aload_n 2, 1) := by decide +kernel
theorem d_C_begin_7 : decode c_C_begin 7 = .ok (.putfield 30, 3) := by decide +kernel
theorem d_C_begin_10 : decode c_C_begin 10 = .ok (.aload_n 0, 1) := by decide +kernel
theorem d_C_begin_11 : decode c_C_begin 11 = .ok (.iconst 0, 1) := by decide +kernel
theorem d_C_begin_12 : decode c_C_begin 12 = .ok (.putfield 95, 3) := by decide +kernel
theorem d_C_begin_15 : decode c_C_begin 15 = .ok (.return_, 1) := by decide +kernel
theorem d_C_afterRead_0 : decode c_C_afterRead 0 = .ok (.getstatic 133, 3) := by decide +kernel
theorem d_C_afterRead_3 : decode c_C_afterRead 3 = .ok (.aload_n 0, 1) := by decide +kernel
theorem d_C_afterRead_4 : decode c_C_afterRead 4 = .ok (.getfield 30, 3) := by decide +kernel
theorem d_C_afterRead_7 : decode c_C_afterRead 7 = .ok (.invokevirtual 138, 3) := by decide +kernel
theorem d_C_afterRead_10 : decode c_C_afterRead 10 = .ok (.iaload, 1) := by decide +kernel
theorem d_C_afterRead_11 : decode c_C_afterRead 11 = .ok (.tableswitch 248 8 24 #[81, 89, 115, 123, 130, 138, 146, 154, 162, 173, 192, 200, 208, 215, 226, 233, 240], 81) := by decide +kernel
theorem d_C_afterRead_92 : decode c_C_afterRead 92 = .ok (.aload_n 0, 1) := by decide +kernel
theorem d_C_afterRead_93 : decode c_C_afterRead 93 = .ok (.iload_n 1, 1) := by decide +kernel
theorem d_C_afterRead_94 : decode c_C_afterRead 94 = .ok (.invokevirtual 182, 3) := by decide +kernel
theorem d_C_afterRead_97 : decode c_C_afterRead 97 = .ok (.goto 167, 3) := by decide +kernel
theorem d_C_afterRead_100 : decode c_C_afterRead 100 = .ok (.aload_n 0, 1) := by decide +kernel
theorem d_C_afterRead_101 : decode c_C_afterRead 101 = .ok (.getfield 20, 3) := by decide +kernel
theorem d_C_afterRead_104 : decode c_C_afterRead 104 = .ok (.invokevirtual 185, 3) := by decide +kernel
theorem d_C_afterRead_107 : decode c_C_afterRead 107 = .ok (.aload_n 0, 1) := by decide +kernel
theorem d_C_afterRead_108 : decode c_C_afterRead 108 = .ok (.getfield 20, 3) := by decide +kernel
theorem d_C_afterRead_111 : decode c_C_afterRead 111 = .ok (.aload_n 0, 1) := by decide +kernel
theorem d_C_afterRead_112 : decode c_C_afterRead 112 = .ok (.getfield 144, 3) := by decide +kernel
theorem d_C_afterRead_115 : decode c_C_afterRead 115 = .ok (.iload_n 1, 1) := by decide +kernel
theorem d_C_afterRead_116 : decode c_C_afterRead 116 = .ok (.invokevirtual 188, 3) := by decide +kernel
theorem d_C_afterRead_119 : decode c_C_afterRead 119 = .ok (.aload_n 0, 1) := by decide +kernel
theorem d_C_afterRead_120 : decode c_C_afterRead 120 = .ok (.invokevirtual 161, 3) := by decide +kernel
theorem d_C_afterRead_123 : decode c_C_afterRead 123 = .ok (.goto 141, 3) := by decide +kernel
theorem d_C_afterRead_126 : decode c_C_afterRead 126 = .ok (.aload_n 0, 1) := by decide +kernel
theorem d_C_afterRead_127 : decode c_C_afterRead 127 = .ok (.iload_n 1, 1) := by decide +kernel
theorem d_C_afterRead_128 : decode c_C_afterRead 128 = .ok (.invokevirtual 191, 3) := by decide +kernel
theorem d_C_afterRead_131 : decode c_C_afterRead 131 = .ok (.goto 133, 3) := by decide +kernel
theorem d_C_afterRead_134 : decode c_C_afterRead 134 = .ok (.aload_n 0, 1) := by decide +kernel
theorem d_C_afterRead_135 : decode c_C_afterRead 135 = .ok (.invokevirtual 194, 3) := by decide +kernel
theorem d_C_afterRead_138 : decode c_C_afterRead 138 = .ok (.goto 126, 3) := by decide +kernel
theorem d_C_afterRead_141 : decode c_C_afterRead 141 = .ok (.aload_n 0, 1) := by decide +kernel
theorem d_C_afterRead_142 : decode c_C_afterRead 142 = .ok (.iload_n 1, 1) := by decide +kernel
theorem d_C_afterRead_143 : decode c_C_afterRead 143 = .ok (.invokevirtual 197, 3) := by decide +kernel
theorem d_C_afterRead_146 : decode c_C_afterRead 146 = .ok (.goto 118, 3) := by decide +kernel
theorem d_C_afterRead_149 : decode c_C_afterRead 149 = .ok (.aload_n 0, 1) := by decide +kernel
theorem d_C_afterRead_150 : decode c_C_afterRead 150 = .ok (.iload_n 1, 1) := by decide +kernel
theorem d_C_afterRead_151 : decode c_C_afterRead 151 = .ok (.invokevirtual 200, 3) := by decide +kernel
theorem d_C_afterRead_154 : decode c_C_afterRead 154 = .ok (.goto 110, 3) := by decide +kernel
theorem d_C_afterRead_157 : decode c_C_afterRead 157 = .ok (.aload_n 0, 1) := by decide +kernel
theorem d_C_afterRead_158 : decode c_C_afterRead 158 = .ok (.iload_n 1, 1) := by decide +kernel
theorem d_C_afterRead_159 : decode c_C_afterRead 159 = .ok (.invokevirtual 203, 3) := by decide +kernel
theorem d_C_afterRead_162 : decode c_C_afterRead 162 = .ok (.goto 102, 3) := by decide +kernel
theorem d_C_afterRead_165 : decode c_C_afterRead 165 = .ok (.aload_n 0, 1) := by decide +kernel
theorem d_C_afterRead_166 : decode c_C_afterRead 166 = .ok (.iload_n 1, 1) := by decide +kernel
theorem d_C_afterRead_167 : decode c_C_afterRead 167 = .ok (.invokevirtual 206, 3) := by decide +kernel
theorem d_C_afterRead_170 : decode c_C_afterRead 170 = .ok (.goto 94, 3) := by decide +kernel
theorem d_C_afterRead_173 : decode c_C_afterRead 173 = .ok (.aload_n 0, 1) := by decide +kernel
theorem d_C_afterRead_174 : decode c_C_afterRead 174 = .ok (.aload_n 0, 1) := by decide +kernel
theorem d_C_afterRead_175 : decode c_C_afterRead 175 = .ok (.getfield 209, 3) := by decide +kernel
theorem d_C_afterRead_178 : decode c_C_afterRead 178 = .ok (.invokevirtual 212, 3) := by decide +kernel
theorem d_C_afterRead_181 : decode c_C_afterRead 181 = .ok (.goto 83, 3) := by decide +kernel
theorem d_C_afterRead_184 : decode c_C_afterRead 184 = .ok (.aload_n 0, 1) := by decide +kernel
theorem d_C_afterRead_185 : decode c_C_afterRead 185 = .ok (.getfield 20, 3) := by decide +kernel
theorem d_C_afterRead_188 : decode c_C_afterRead 188 = .ok (.aload_n 0, 1) := by decide +kernel
theorem d_C_afterRead_189 : decode c_C_afterRead 189 = .ok (.getfield 144, 3) := by decide +kernel
theorem d_C_afterRead_192 : decode c_C_afterRead 192 = .ok (.iload_n 1, 1) := by decide +kernel
theorem d_C_afterRead_193 : decode c_C_afterRead 193 = .ok (.invokevirtual 188, 3) := by decide +kernel
theorem d_C_afterRead_196 : decode c_C_afterRead 196 = .ok (.aload_n 0, 1) := by decide +kernel
theorem d_C_afterRead_197 : decode c_C_afterRead 197 = .ok (.invokevirtual 161, 3) := by decide +kernel
theorem d_C_afterRead_200 : decode c_C_afterRead 200 = .ok (.goto 64, 3) := by decide +kernel
theorem d_C_afterRead_203 : decode c_C_afterRead 203 = .ok (.aload_n 0, 1) := by decide +kernel
theorem d_C_afterRead_204 : decode c_C_afterRead 204 = .ok (.iload_n 1, 1) := by decide +kernel
theorem d_C_afterRead_205 : decode c_C_afterRead 205 = .ok (.invokevirtual 215, 3) := by decide +kernel
theorem d_C_afterRead_208 : decode c_C_afterRead 208 = .ok (.goto 56, 3) := by decide +kernel
theorem d_C_afterRead_211 : decode c_C_afterRead 211 = .ok (.aload_n 0, 1) := by decide +kernel
theorem d_C_afterRead_212 : decode c_C_afterRead 212 = .ok (.iload_n 1, 1) := by decide +kernel
theorem d_C_afterRead_213 : decode c_C_afterRead 213 = .ok (.invokevirtual 218, 3) := by decide +kernel
theorem d_C_afterRead_216 : decode c_C_afterRead 216 = .ok (.goto 48, 3) := by decide +kernel
theorem d_C_afterRead_219 : decode c_C_afterRead 219 = .ok (.aload_n 0, 1) := by decide +kernel
theorem d_C_afterRead_220 : decode c_C_afterRead 220 = .ok (.invokevirtual 221, 3) := by decide +kernel
theorem d_C_afterRead_223 : decode c_C_afterRead 223 = .ok (.goto 41, 3) := by decide +kernel
theorem d_C_afterRead_226 : decode c_C_afterRead 226 = .ok (.aload_n 0, 1) := by decide +kernel
theorem d_C_afterRead_227 : decode c_C_afterRead 227 = .ok (.aload_n 0, 1) := by decide +kernel
theorem d_C_afterRead_228 : decode c_C_afterRead 228 = .ok (.getfield 209, 3) := by decide +kernel
theorem d_C_afterRead_231 : decode c_C_afterRead 231 = .ok (.invokevirtual 224, 3) := by decide +kernel
theorem d_C_afterRead_234 : decode c_C_afterRead 234 = .ok (.goto 30, 3) := by decide +kernel
theorem d_C_afterRead_237 : decode c_C_afterRead 237 = .ok (.aload_n 0, 1) := by decide +kernel
theorem d_C_afterRead_238 : decode c_C_afterRead 238 = .ok (.invokevirtual 227, 3) := by decide +kernel
theorem d_C_afterRead_241 : decode c_C_afterRead 241 = .ok (.goto 23, 3) := by decide +kernel
theorem d_C_afterRead_244 : decode c_C_afterRead 244 = .ok (.aload_n 0, 1) := by decide +kernel
theorem d_C_afterRead_245 : decode c_C_afterRead 245 = .ok (.invokevirtual 230, 3) := by decide +kernel
theorem d_C_afterRead_248 : decode c_C_afterRead 248 = .ok (.goto 16, 3) := by decide +kernel
theorem d_C_afterRead_251 : decode c_C_afterRead 251 = .ok (.aload_n 0, 1) := by decide +kernel
theorem d_C_afterRead_252 : decode c_C_afterRead 252 = .ok (.iconst 1, 1) := by decide +kernel
theorem d_C_afterRead_253 : decode c_C_afterRead 253 = .ok (.putfield 95, 3) := by decide +kernel
theorem d_C_afterRead_256 : decode c_C_afterRead 256 = .ok (.goto 8, 3) := by decide +kernel
theorem d_C_afterRead_259 : decode c_C_afterRead 259 = .ok (.aload_n 0, 1) := by decide +kernel
theorem d_C_afterRead_260 : decode c_C_afterRead 260 = .ok (.iload_n 1, 1) := by decide +kernel
theorem d_C_afterRead_261 : decode c_C_afterRead 261 = .ok (.invokevirtual 233, 3) := by decide +kernel
theorem d_C_afterRead_264 : decode c_C_afterRead 264 = .ok (.return_, 1) := by decide +kernel
theorem d_C_afterFetch_0 : decode c_C_afterFetch 0 = .ok (.aload_n 0, 1) := by decide +kernel
theorem d_C_afterFetch_1 : decode c_C_afterFetch 1 = .ok (.getfield 20, 3) := by decide +kernel
theorem d_C_afterFetch_4 : decode c_C_afterFetch 4 = .ok (.invokevirtual 185, 3) := by decide +kernel
theorem d_C_afterFetch_7 : decode c_C_afterFetch 7 = .ok (.aload_n 0, 1) := by decide +kernel
theorem d_C_afterFetch_8 : decode c_C_afterFetch 8 = .ok (.iload_n 1, 1) := by decide +kernel
theorem d_C_afterFetch_9 : decode c_C_afterFetch 9 = .ok (.iconst 3, 1) := by decide +kernel
theorem d_C_afterFetch_10 : decode c_C_afterFetch 10 = .ok (.ishr, 1) := by decide +kernel
theorem d_C_afterFetch_11 : decode c_C_afterFetch 11 = .ok (.putfield 144, 3) := by decide +kernel
theorem d_C_afterFetch_14 : decode c_C_afterFetch 14 = .ok (.aload_n 0, 1) := by decide +kernel
theorem d_C_afterFetch_15 : decode c_C_afterFetch 15 = .ok (.iload_n 1, 1) := by decide +kernel
theorem d_C_afterFetch_16 : decode c_C_afterFetch 16 = .ok (.bipush 7, 2) := by decide +kernel
theorem d_C_afterFetch_18 : decode c_C_afterFetch 18 = .ok (.iand, 1) := by decide +kernel
theorem d_C_afterFetch_19 : decode c_C_afterFetch 19 = .ok (.putfield 274, 3) := by decide +kernel
theorem d_C_afterFetch_22 : decode c_C_afterFetch 22 = .ok (.aload_n 0, 1) := by decide +kernel
theorem d_C_afterFetch_23 : decode c_C_afterFetch 23 = .ok (.aload_n 0, 1) := by decide +kernel
theorem d_C_afterFetch_24 : decode c_C_afterFetch 24 = .ok (.getfield 274, 3) := by decide +kernel
theorem d_C_afterFetch_27 : decode c_C_afterFetch 27 = .ok (.bipush 7, 2) := by decide +kernel
theorem d_C_afterFetch_29 : decode c_C_afterFetch 29 = .ok (.if_icmp .ne 10, 3) := by decide +kernel
theorem d_C_afterFetch_32 : decode c_C_afterFetch 32 = .ok (.aload_n 0, 1) := by decide +kernel
theorem d_C_afterFetch_33 : decode c_C_afterFetch 33 = .ok (.invokevirtual 277, 3) := by decide +kernel
theorem d_C_afterFetch_36 : decode c_C_afterFetch 36 = .ok (.goto 7, 3) := by decide +kernel
theorem d_C_afterFetch_39 : decode c_C_afterFetch 39 = .ok (.aload_n 0, 1) := by decide +kernel
theorem d_C_afterFetch_40 : decode c_C_afterFetch 40 = .ok (.invokevirtual 281, 3) := by decide +kernel
theorem d_C_afterFetch_43 : decode c_C_afterFetch 43 = .ok (.putfield 39, 3) := by decide +kernel
theorem d_C_afterFetch_46 : decode c_C_afterFetch 46 = .ok (.aload_n 0, 1) := by decide +kernel
theorem d_C_afterFetch_47 : decode c_C_afterFetch 47 = .ok (.aload_n 0, 1) := by decide +kernel
theorem d_C_afterFetch_48 : decode c_C_afterFetch 48 = .ok (.invokevirtual 284, 3) := by decide +kernel
theorem d_C_afterFetch_51 : decode c_C_afterFetch 51 = .ok (.putfield 30, 3) := by decide +kernel
theorem d_C_afterFetch_54 : decode c_C_afterFetch 54 = .ok (.return_, 1) := by decide +kernel
theorem d_C_kindWithoutOperand_0 : decode c_C_kindWithoutOperand 0 = .ok (.aload_n 0, 1) := by decide +kernel
theorem d_C_kindWithoutOperand_1 : decode c_C_kindWithoutOperand 1 = .ok (.getfield 144, 3) := by decide +kernel
theorem d_C_kindWithoutOperand_4 : decode c_C_kindWithoutOperand 4 = .ok (.bipush 15, 2) := by decide +kernel
theorem d_C_kindWithoutOperand_6 : decode c_C_kindWithoutOperand 6 = .ok (.if_icmp .gt 7, 3) := by decide +kernel
theorem d_C_kindWithoutOperand_9 : decode c_C_kindWithoutOperand 9 = .ok (.getstatic 305, 3) := by decide +kernel
theorem d_C_kindWithoutOperand_12 : decode c_C_kindWithoutOperand 12 = .ok (.areturn, 1) := by decide +kernel
theorem d_C_kindWithoutOperand_13 : decode c_C_kindWithoutOperand 13 = .ok (.aload_n 0, 1) := by decide +kernel
theorem d_C_kindWithoutOperand_14 : decode c_C_kindWithoutOperand 14 = .ok (.getfield 144, 3) := by decide +kernel
theorem d_C_kindWithoutOperand_17 : decode c_C_kindWithoutOperand 17 = .ok (.tableswitch 73 16 22 #[43, 49, 43, 49, 55, 61, 67], 43) := by decide +kernel
theorem d_C_kindWithoutOperand_60 : decode c_C_kindWithoutOperand 60 = .ok (.getstatic 308, 3) := by decide +kernel
theorem d_C_kindWithoutOperand_63 : decode c_C_kindWithoutOperand 63 = .ok (.goto 30, 3) := by decide +kernel
theorem d_C_kindWithoutOperand_66 : decode c_C_kindWithoutOperand 66 = .ok (.getstatic 311, 3) := by decide +kernel
theorem d_C_kindWithoutOperand_69 : decode c_C_kindWithoutOperand 69 = .ok (.goto 24, 3) := by decide +kernel
theorem d_C_kindWithoutOperand_72 : decode c_C_kindWithoutOperand 72 = .ok (.getstatic 314, 3) := by decide +kernel
theorem d_C_kindWithoutOperand_75 : decode c_C_kindWithoutOperand 75 = .ok (.goto 18, 3) := by decide +kernel
theorem d_C_kindWithoutOperand_78 : decode c_C_kindWithoutOperand 78 = .ok (.getstatic 317, 3) := by decide +kernel
theorem d_C_kindWithoutOperand_81 : decode c_C_kindWithoutOperand 81 = .ok (.goto 12, 3) := by decide +kernel
theorem d_C_kindWithoutOperand_84 : decode c_C_kindWithoutOperand 84 = .ok (.getstatic 151, 3) := by decide +kernel
theorem d_C_kindWithoutOperand_87 : decode c_C_kindWithoutOperand 87 = .ok (.goto 6, 3) := by decide +kernel
theorem d_C_kindWithoutOperand_90 : decode c_C_kindWithoutOperand 90 = .ok (.getstatic 287, 3) := by decide +kernel
theorem d_C_kindWithoutOperand_93 : decode c_C_kindWithoutOperand 93 = .ok (.areturn, 1) := by decide +kernel
theorem d_C_kindWithOperand_0 : decode c_C_kindWithOperand 0 = .ok (.aload_n 0, 1) := by decide +kernel
theorem d_C_kindWithOperand_1 : decode c_C_kindWithOperand 1 = .ok (.getfield 144, 3) := by decide +kernel
theorem d_C_kindWithOperand_4 : decode c_C_kindWithOperand 4 = .ok (.iconst 1, 1) := by decide +kernel
theorem d_C_kindWithOperand_5 : decode c_C_kindWithOperand 5 = .ok (.if_icmp .ne 20, 3) := by decide +kernel
theorem d_C_kindWithOperand_8 : decode c_C_kindWithOperand 8 = .ok (.aload_n 0, 1) := by decide +kernel
theorem d_C_kindWithOperand_9 : decode c_C_kindWithOperand 9 = .ok (.getfield 274, 3) := by decide +kernel
theorem d_C_kindWithOperand_12 : decode c_C_kindWithOperand 12 = .ok (.ifCond .ne 9, 3) := by decide +kernel
theorem d_C_kindWithOperand_15 : decode c_C_kindWithOperand 15 = .ok (.getstatic 287, 3) := by decide +kernel
theorem d_C_kindWithOperand_18 : decode c_C_kindWithOperand 18 = .ok (.goto 6, 3) := by decide +kernel
theorem d_C_kindWithOperand_21 : decode c_C_kindWithOperand 21 = .ok (.getstatic 290, 3) := by decide +kernel
theorem d_C_kindWithOperand_24 : decode c_C_kindWithOperand 24 = .ok (.areturn, 1) := by decide +kernel
theorem d_C_kindWithOperand_25 : decode c_C_kindWithOperand 25 = .ok (.aload_n 0, 1) := by decide +kernel
theorem d_C_kindWithOperand_26 : decode c_C_kindWithOperand 26 = .ok (.getfield 144, 3) := by decide +kernel
theorem d_C_kindWithOperand_29 : decode c_C_kindWithOperand 29 = .ok (.bipush 9, 2) := by decide +kernel
theorem d_C_kindWithOperand_31 : decode c_C_kindWithOperand 31 = .ok (.if_icmp .gt 7, 3) := by decide +kernel
theorem d_C_kindWithOperand_34 : decode c_C_kindWithOperand 34 = .ok (.getstatic 293, 3) := by decide +kernel
theorem d_C_kindWithOperand_37 : decode c_C_kindWithOperand 37 = .ok (.areturn, 1) := by decide +kernel
theorem d_C_kindWithOperand_38 : decode c_C_kindWithOperand 38 = .ok (.aload_n 0, 1) := by decide +kernel
theorem d_C_kindWithOperand_39 : decode c_C_kindWithOperand 39 = .ok (.getfield 144, 3) := by decide +kernel
theorem d_C_kindWithOperand_42 : decode c_C_kindWithOperand 42 = .ok (.bipush 13, 2) := by decide +kernel
theorem d_C_kindWithOperand_44 : decode c_C_kindWithOperand 44 = .ok (.if_icmp .gt 29, 3) := by decide +kernel
theorem d_C_kindWithOperand_47 : decode c_C_kindWithOperand 47 = .ok (.aload_n 0, 1) := by decide +kernel
theorem d_C_kindWithOperand_48 : decode c_C_kindWithOperand 48 = .ok (.getfield 274, 3) := by decide +kernel
theorem d_C_kindWithOperand_51 : decode c_C_kindWithOperand 51 = .ok (.iconst 1, 1) := by decide +kernel
theorem d_C_kindWithOperand_52 : decode c_C_kindWithOperand 52 = .ok (.if_icmp .lt 17, 3) := by decide +kernel
theorem d_C_kindWithOperand_55 : decode c_C_kindWithOperand 55 = .ok (.aload_n 0, 1) := by decide +kernel
theorem d_C_kindWithOperand_56 : decode c_C_kindWithOperand 56 = .ok (.getfield 274, 3) := by decide +kernel
theorem d_C_kindWithOperand_59 : decode c_C_kindWithOperand 59 = .ok (.iconst 4, 1) := by decide +kernel
theorem d_C_kindWithOperand_60 : decode c_C_kindWithOperand 60 = .ok (.if_icmp .gt 9, 3) := by decide +kernel
theorem d_C_kindWithOperand_63 : decode c_C_kindWithOperand 63 = .ok (.getstatic 296, 3) := by decide +kernel
theorem d_C_kindWithOperand_66 : decode c_C_kindWithOperand 66 = .ok (.goto 6, 3) := by decide +kernel
theorem d_C_kindWithOperand_69 : decode c_C_kindWithOperand 69 = .ok (.getstatic 287, 3) := by decide +kernel
theorem d_C_kindWithOperand_72 : decode c_C_kindWithOperand 72 = .ok (.areturn, 1) := by decide +kernel
theorem d_C_kindWithOperand_73 : decode c_C_kindWithOperand 73 = .ok (.aload_n 0, 1) := by decide +kernel
theorem d_C_kindWithOperand_74 : decode c_C_kindWithOperand 74 = .ok (.getfield 274, 3) := by decide +kernel
theorem d_C_kindWithOperand_77 : decode c_C_kindWithOperand 77 = .ok (.ifCond .ne 25, 3) := by decide +kernel
theorem d_C_kindWithOperand_80 : decode c_C_kindWithOperand 80 = .ok (.aload_n 0, 1) := by decide +kernel
theorem d_C_kindWithOperand_81 : decode c_C_kindWithOperand 81 = .ok (.getfield 144, 3) := by decide +kernel
theorem d_C_kindWithOperand_84 : decode c_C_kindWithOperand 84 = .ok (.bipush 16, 2) := by decide +kernel
theorem d_C_kindWithOperand_86 : decode c_C_kindWithOperand 86 = .ok (.if_icmp .lt 16, 3) := by decide +kernel
theorem d_C_kindWithOperand_89 : decode c_C_kindWithOperand 89 = .ok (.aload_n 0, 1) := by decide +kernel
theorem d_C_kindWithOperand_90 : decode c_C_kindWithOperand 90 = .ok (.getfield 144, 3) := by decide +kernel
theorem d_C_kindWithOperand_93 : decode c_C_kindWithOperand 93 = .ok (.bipush 23, 2) := by decide +kernel
theorem d_C_kindWithOperand_95 : decode c_C_kindWithOperand 95 = .ok (.if_icmp .gt 7, 3) := by decide +kernel
theorem d_C_kindWithOperand_98 : decode c_C_kindWithOperand 98 = .ok (.getstatic 299, 3) := by decide +kernel
theorem d_C_kindWithOperand_101 : decode c_C_kindWithOperand 101 = .ok (.areturn, 1) := by decide +kernel
theorem d_C_kindWithOperand_102 : decode c_C_kindWithOperand 102 = .ok (.aload_n 0, 1) := by decide +kernel
theorem d_C_kindWithOperand_103 : decode c_C_kindWithOperand 103 = .ok (.getfield 274, 3) := by decide +kernel
theorem d_C_kindWithOperand_106 : decode c_C_kindWithOperand 106 = .ok (.iconst 3, 1) := by decide +kernel
theorem d_C_kindWithOperand_107 : decode c_C_kindWithOperand 107 = .ok (.if_icmp .ne 16, 3) := by decide +kernel
theorem d_C_kindWithOperand_110 : decode c_C_kindWithOperand 110 = .ok (.aload_n 0, 1) := by decide +kernel
theorem d_C_kindWithOperand_111 : decode c_C_kindWithOperand 111 = .ok (.getfield 144, 3) := by decide +kernel
theorem d_C_kindWithOperand_114 : decode c_C_kindWithOperand 114 = .ok (.bipush 24, 2) := by decide +kernel
theorem d_C_kindWithOperand_116 : decode c_C_kindWithOperand 116 = .ok (.if_icmp .ne 7, 3) := by decide +kernel
theorem d_C_kindWithOperand_119 : decode c_C_kindWithOperand 119 = .ok (.getstatic 302, 3) := by decide +kernel
theorem d_C_kindWithOperand_122 : decode c_C_kindWithOperand 122 = .ok (.areturn, 1) := by decide +kernel
theorem d_C_kindWithOperand_123 : decode c_C_kindWithOperand 123 = .ok (.aload_n 0, 1) := by decide +kernel
theorem d_C_kindWithOperand_124 : decode c_C_kindWithOperand 124 = .ok (.getfield 274, 3) := by decide +kernel
theorem d_C_kindWithOperand_127 : decode c_C_kindWithOperand 127 = .ok (.iconst 3, 1) := by decide +kernel
theorem d_C_kindWithOperand_128 : decode c_C_kindWithOperand 128 = .ok (.if_icmp .ne 18, 3) := by decide +kernel
theorem d_C_kindWithOperand_131 : decode c_C_kindWithOperand 131 = .ok (.aload_n 0, 1) := by decide +kernel
theorem d_C_kindWithOperand_132 : decode c_C_kindWithOperand 132 = .ok (.getfield 144, 3) := by decide +kernel
theorem d_C_kindWithOperand_135 : decode c_C_kindWithOperand 135 = .ok (.bipush 25, 2) := by decide +kernel
theorem d_C_kindWithOperand_137 : decode c_C_kindWithOperand 137 = .ok (.if_icmp .ne 9, 3) := by decide +kernel
theorem d_C_kindWithOperand_140 : decode c_C_kindWithOperand 140 = .ok (.getstatic 170, 3) := by decide +kernel
theorem d_C_kindWithOperand_143 : decode c_C_kindWithOperand 143 = .ok (.goto 6, 3) := by decide +kernel
theorem d_C_kindWithOperand_146 : decode c_C_kindWithOperand 146 = .ok (.getstatic 287, 3) := by decide +kernel
theorem d_C_kindWithOperand_149 : decode c_C_kindWithOperand 149 = .ok (.areturn, 1) := by decide +kernel
theorem d_C_secondStep_0 : decode c_C_secondStep 0 = .ok (.getstatic 320, 3) := by decide +kernel
theorem d_C_secondStep_3 : decode c_C_secondStep 3 = .ok (.aload_n 0, 1) := by decide +kernel
theorem d_C_secondStep_4 : decode c_C_secondStep 4 = .ok (.getfield 39, 3) := by decide +kernel
theorem d_C_secondStep_7 : decode c_C_secondStep 7 = .ok (.invokevirtual 323, 3) := by decide +kernel
theorem d_C_secondStep_10 : decode c_C_secondStep 10 = .ok (.iaload, 1) := by decide +kernel
theorem d_C_secondStep_11 : decode c_C_secondStep 11 = .ok (.tableswitch 76 1 8 #[45, 45, 45, 52, 58, 58, 64, 70], 45) := by decide +kernel
theorem d_C_secondStep_56 : decode c_C_secondStep 56 = .ok (.aload_n 0, 1) := by decide +kernel
theorem d_C_secondStep_57 : decode c_C_secondStep 57 = .ok (.invokevirtual 324, 3) := by decide +kernel
theorem d_C_secondStep_60 : decode c_C_secondStep 60 = .ok (.goto 30, 3) := by decide +kernel
theorem d_C_secondStep_63 : decode c_C_secondStep 63 = .ok (.getstatic 327, 3) := by decide +kernel
theorem d_C_secondStep_66 : decode c_C_secondStep 66 = .ok (.goto 24, 3) := by decide +kernel
theorem d_C_secondStep_69 : decode c_C_secondStep 69 = .ok (.getstatic 330, 3) := by decide +kernel
theorem d_C_secondStep_72 : decode c_C_secondStep 72 = .ok (.goto 18, 3) := by decide +kernel
theorem d_C_secondStep_75 : decode c_C_secondStep 75 = .ok (.getstatic 333, 3) := by decide +kernel
theorem d_C_secondStep_78 : decode c_C_secondStep 78 = .ok (.goto 12, 3) := by decide +kernel
theorem d_C_secondStep_81 : decode c_C_secondStep 81 = .ok (.getstatic 92, 3) := by decide +kernel
theorem d_C_secondStep_84 : decode c_C_secondStep 84 = .ok (.goto 6, 3) := by decide +kernel
theorem d_C_secondStep_87 : decode c_C_secondStep 87 = .ok (.getstatic 336, 3) := by decide +kernel
theorem d_C_secondStep_90 : decode c_C_secondStep 90 = .ok (.areturn, 1) := by decide +kernel
theorem d_C_secondStepByMode_0 : decode c_C_secondStepByMode 0 = .ok (.aload_n 0, 1) := by decide +kernel
theorem d_C_secondStepByMode_1 : decode c_C_secondStepByMode 1 = .ok (.getfield 274, 3) := by decide +kernel
theorem d_C_secondStepByMode_4 : decode c_C_secondStepByMode 4 = .ok (.tableswitch 48 0 4 #[36, 48, 48, 42, 42], 36) := by decide +kernel
theorem d_C_secondStepByMode_40 : decode c_C_secondStepByMode 40 = .ok (.getstatic 339, 3) := by decide +kernel
theorem d_C_secondStepByMode_43 : decode c_C_secondStepByMode 43 = .ok (.goto 12, 3) := by decide +kernel
theorem d_C_secondStepByMode_46 : decode c_C_secondStepByMode 46 = .ok (.getstatic 330, 3) := by decide +kernel
theorem d_C_secondStepByMode_49 : decode c_C_secondStepByMode 49 = .ok (.goto 6, 3) := by decide +kernel
theorem d_C_secondStepByMode_52 : decode c_C_secondStepByMode 52 = .ok (.getstatic 342, 3) := by decide +kernel
theorem d_C_secondStepByMode_55 : decode c_C_secondStepByMode 55 = .ok (.areturn, 1) := by decide +kernel
theorem d_C_afterZeroByte_0 : decode c_C_afterZeroByte 0 = .ok (.aload_n 0, 1) := by decide +kernel
theorem d_C_afterZeroByte_1 : decode c_C_afterZeroByte 1 = .ok (.getfield 20, 3) := by decide +kernel
theorem d_C_afterZeroByte_4 : decode c_C_afterZeroByte 4 = .ok (.invokevirtual 185, 3) := by decide +kernel
theorem d_C_afterZeroByte_7 : decode c_C_afterZeroByte 7 = .ok (.aload_n 0, 1) := by decide +kernel
theorem d_C_afterZeroByte_8 : decode c_C_afterZeroByte 8 = .ok (.getfield 274, 3) := by decide +kernel
theorem d_C_afterZeroByte_11 : decode c_C_afterZeroByte 11 = .ok (.iconst 1, 1) := by decide +kernel
theorem d_C_afterZeroByte_12 : decode c_C_afterZeroByte 12 = .ok (.if_icmp .ne 11, 3) := by decide +kernel
theorem d_C_afterZeroByte_15 : decode c_C_afterZeroByte 15 = .ok (.aload_n 0, 1) := by decide +kernel
theorem d_C_afterZeroByte_16 : decode c_C_afterZeroByte 16 = .ok (.iload_n 1, 1) := by decide +kernel
theorem d_C_afterZeroByte_17 : decode c_C_afterZeroByte 17 = .ok (.invokevirtual 212, 3) := by decide +kernel
theorem d_C_afterZeroByte_20 : decode c_C_afterZeroByte 20 = .ok (.goto 37, 3) := by decide +kernel
theorem d_C_afterZeroByte_23 : decode c_C_afterZeroByte 23 = .ok (.aload_n 0, 1) := by decide +kernel
theorem d_C_afterZeroByte_24 : decode c_C_afterZeroByte 24 = .ok (.iload_n 1, 1) := by decide +kernel
theorem d_C_afterZeroByte_25 : decode c_C_afterZeroByte 25 = .ok (.putfield 127, 3) := by decide +kernel
theorem d_C_afterZeroByte_28 : decode c_C_afterZeroByte 28 = .ok (.aload_n 0, 1) := by decide +kernel
theorem d_C_afterZeroByte_29 : decode c_C_afterZeroByte 29 = .ok (.aload_n 0, 1) := by decide +kernel
theorem d_C_afterZeroByte_30 : decode c_C_afterZeroByte 30 = .ok (.getfield 274, 3) := by decide +kernel
theorem d_C_afterZeroByte_33 : decode c_C_afterZeroByte 33 = .ok (.iconst 2, 1) := by decide +kernel
theorem d_C_afterZeroByte_34 : decode c_C_afterZeroByte 34 = .ok (.if_icmp .eq 11, 3) := by decide +kernel
theorem d_C_afterZeroByte_37 : decode c_C_afterZeroByte 37 = .ok (.aload_n 0, 1) := by decide +kernel
theorem d_C_afterZeroByte_38 : decode c_C_afterZeroByte 38 = .ok (.getfield 274, 3) := by decide +kernel
theorem d_C_afterZeroByte_41 : decode c_C_afterZeroByte 41 = .ok (.iconst 5, 1) := by decide +kernel
theorem d_C_afterZeroByte_42 : decode c_C_afterZeroByte 42 = .ok (.if_icmp .ne 9, 3) := by decide +kernel
theorem d_C_afterZeroByte_45 : decode c_C_afterZeroByte 45 = .ok (.getstatic 345, 3) := by decide +kernel
theorem d_C_afterZeroByte_48 : decode c_C_afterZeroByte 48 = .ok (.goto 6, 3) := by decide +kernel
theorem d_C_afterZeroByte_51 : decode c_C_afterZeroByte 51 = .ok (.getstatic 348, 3) := by decide +kernel
theorem d_C_afterZeroByte_54 : decode c_C_afterZeroByte 54 = .ok (.putfield 30, 3) := by decide +kernel
theorem d_C_afterZeroByte_57 : decode c_C_afterZeroByte 57 = .ok (.return_, 1) := by decide +kernel
theorem d_C_accessOperandAt_0 : decode c_C_accessOperandAt 0 = .ok (.aload_n 0, 1) := by decide +kernel
theorem d_C_accessOperandAt_1 : decode c_C_accessOperandAt 1 = .ok (.iload_n 1, 1) := by decide +kernel
theorem d_C_accessOperandAt_2 : decode c_C_accessOperandAt 2 = .ok (.putfield 127, 3) := by decide +kernel
theorem d_C_accessOperandAt_5 : decode c_C_accessOperandAt 5 = .ok (.aload_n 0, 1) := by decide +kernel
theorem d_C_accessOperandAt_6 : decode c_C_accessOperandAt 6 = .ok (.getstatic 320, 3) := by decide +kernel
theorem d_C_accessOperandAt_9 : decode c_C_accessOperandAt 9 = .ok (.aload_n 0, 1) := by decide +kernel
theorem d_C_accessOperandAt_10 : decode c_C_accessOperandAt 10 = .ok (.getfield 39, 3) := by decide +kernel
theorem d_C_accessOperandAt_13 : decode c_C_accessOperandAt 13 = .ok (.invokevirtual 323, 3) := by decide +kernel
theorem d_C_accessOperandAt_16 : decode c_C_accessOperandAt 16 = .ok (.iaload, 1) := by decide +kernel
theorem d_C_accessOperandAt_17 : decode c_C_accessOperandAt 17 = .ok (.lookupswitch 39 #[(2, 27), (3, 33)], 27) := by decide +kernel
theorem d_C_accessOperandAt_44 : decode c_C_accessOperandAt 44 = .ok (.getstatic 363, 3) := by decide +kernel
theorem d_C_accessOperandAt_47 : decode c_C_accessOperandAt 47 = .ok (.goto 12, 3) := by decide +kernel
theorem d_C_accessOperandAt_50 : decode c_C_accessOperandAt 50 = .ok (.getstatic 365, 3) := by decide +kernel
theorem d_C_accessOperandAt_53 : decode c_C_accessOperandAt 53 = .ok (.goto 6, 3) := by decide +kernel
theorem d_C_accessOperandAt_56 : decode c_C_accessOperandAt 56 = .ok (.getstatic 368, 3) := by decide +kernel
theorem d_C_accessOperandAt_59 : decode c_C_accessOperandAt 59 = .ok (.putfield 30, 3) := by decide +kernel
theorem d_C_accessOperandAt_62 : decode c_C_accessOperandAt 62 = .ok (.return_, 1) := by decide +kernel
theorem d_C_afterZeroIdle_0 : decode c_C_afterZeroIdle 0 = .ok (.aload_n 0, 1) := by decide +kernel
theorem d_C_afterZeroIdle_1 : decode c_C_afterZeroIdle 1 = .ok (.getfield 127, 3) := by decide +kernel
theorem d_C_afterZeroIdle_4 : decode c_C_afterZeroIdle 4 = .ok (.aload_n 0, 1) := by decide +kernel
theorem d_C_afterZeroIdle_5 : decode c_C_afterZeroIdle 5 = .ok (.getfield 20, 3) := by decide +kernel
theorem d_C_afterZeroIdle_8 : decode c_C_afterZeroIdle 8 = .ok (.getfield 77, 3) := by decide +kernel
theorem d_C_afterZeroIdle_11 : decode c_C_afterZeroIdle 11 = .ok (.iadd, 1) := by decide +kernel
theorem d_C_afterZeroIdle_12 : decode c_C_afterZeroIdle 12 = .ok (.sipush 255, 3) := by decide +kernel
theorem d_C_afterZeroIdle_15 : decode c_C_afterZeroIdle 15 = .ok (.iand, 1) := by decide +kernel
theorem d_C_afterZeroIdle_16 : decode c_C_afterZeroIdle 16 = .ok (.istore_n 1, 1) := by decide +kernel
theorem d_C_afterZeroIdle_17 : decode c_C_afterZeroIdle 17 = .ok (.aload_n 0, 1) := by decide +kernel
theorem d_C_afterZeroIdle_18 : decode c_C_afterZeroIdle 18 = .ok (.getfield 274, 3) := by decide +kernel
theorem d_C_afterZeroIdle_21 : decode c_C_afterZeroIdle 21 = .ok (.iconst 2, 1) := by decide +kernel
theorem d_C_afterZeroIdle_22 : decode c_C_afterZeroIdle 22 = .ok (.if_icmp .ne 11, 3) := by decide +kernel
theorem d_C_afterZeroIdle_25 : decode c_C_afterZeroIdle 25 = .ok (.aload_n 0, 1) := by decide +kernel
theorem d_C_afterZeroIdle_26 : decode c_C_afterZeroIdle 26 = .ok (.iload_n 1, 1) := by decide +kernel
theorem d_C_afterZeroIdle_27 : decode c_C_afterZeroIdle 27 = .ok (.invokevirtual 212, 3) := by decide +kernel
theorem d_C_afterZeroIdle_30 : decode c_C_afterZeroIdle 30 = .ok (.goto 15, 3) := by decide +kernel
theorem d_C_afterZeroIdle_33 : decode c_C_afterZeroIdle 33 = .ok (.aload_n 0, 1) := by decide +kernel
theorem d_C_afterZeroIdle_34 : decode c_C_afterZeroIdle 34 = .ok (.iload_n 1, 1) := by decide +kernel
theorem d_C_afterZeroIdle_35 : decode c_C_afterZeroIdle 35 = .ok (.putfield 127, 3) := by decide +kernel
theorem d_C_afterZeroIdle_38 : decode c_C_afterZeroIdle 38 = .ok (.aload_n 0, 1) := by decide +kernel
theorem d_C_afterZeroIdle_39 : decode c_C_afterZeroIdle 39 = .ok (.getstatic 348, 3) := by decide +kernel
theorem d_C_afterZeroIdle_42 : decode c_C_afterZeroIdle 42 = .ok (.putfield 30, 3) := by decide +kernel
theorem d_C_afterZeroIdle_45 : decode c_C_afterZeroIdle 45 = .ok (.return_, 1) := by decide +kernel
theorem d_C_afterPointerLow_0 : decode c_C_afterPointerLow 0 = .ok (.aload_n 0, 1) := by decide +kernel
theorem d_C_afterPointerLow_1 : decode c_C_afterPointerLow 1 = .ok (.iload_n 1, 1) := by decide +kernel
theorem d_C_afterPointerLow_2 : decode c_C_afterPointerLow 2 = .ok (.putfield 141, 3) := by decide +kernel
theorem d_C_afterPointerLow_5 : decode c_C_afterPointerLow 5 = .ok (.aload_n 0, 1) := by decide +kernel
theorem d_C_afterPointerLow_6 : decode c_C_afterPointerLow 6 = .ok (.aload_n 0, 1) := by decide +kernel
theorem d_C_afterPointerLow_7 : decode c_C_afterPointerLow 7 = .ok (.getfield 127, 3) := by decide +kernel
theorem d_C_afterPointerLow_10 : decode c_C_afterPointerLow 10 = .ok (.iconst 1, 1) := by decide +kernel
theorem d_C_afterPointerLow_11 : decode c_C_afterPointerLow 11 = .ok (.iadd, 1) := by decide +kernel
theorem d_C_afterPointerLow_12 : decode c_C_afterPointerLow 12 = .ok (.sipush 255, 3) := by decide +kernel
theorem d_C_afterPointerLow_15 : decode c_C_afterPointerLow 15 = .ok (.iand, 1) := by decide +kernel
theorem d_C_afterPointerLow_16 : decode c_C_afterPointerLow 16 = .ok (.putfield 127, 3) := by decide +kernel
theorem d_C_afterPointerLow_19 : decode c_C_afterPointerLow 19 = .ok (.aload_n 0, 1) := by decide +kernel
theorem d_C_afterPointerLow_20 : decode c_C_afterPointerLow 20 = .ok (.getstatic 351, 3) := by decide +kernel
theorem d_C_afterPointerLow_23 : decode c_C_afterPointerLow 23 = .ok (.putfield 30, 3) := by decide +kernel
theorem d_C_afterPointerLow_26 : decode c_C_afterPointerLow 26 = .ok (.return_, 1) := by decide +kernel
theorem d_C_afterPointerPage_0 : decode c_C_afterPointerPage 0 = .ok (.aload_n 0, 1) := by decide +kernel
theorem d_C_afterPointerPage_1 : decode c_C_afterPointerPage 1 = .ok (.getfield 274, 3) := by decide +kernel
theorem d_C_afterPointerPage_4 : decode c_C_afterPointerPage 4 = .ok (.iconst 5, 1) := by decide +kernel
theorem d_C_afterPointerPage_5 : decode c_C_afterPointerPage 5 = .ok (.if_icmp .ne 20, 3) := by decide +kernel
theorem d_C_afterPointerPage_8 : decode c_C_afterPointerPage 8 = .ok (.aload_n 0, 1) := by decide +kernel
theorem d_C_afterPointerPage_9 : decode c_C_afterPointerPage 9 = .ok (.aload_n 0, 1) := by decide +kernel
theorem d_C_afterPointerPage_10 : decode c_C_afterPointerPage 10 = .ok (.getfield 141, 3) := by decide +kernel
theorem d_C_afterPointerPage_13 : decode c_C_afterPointerPage 13 = .ok (.sipush 256, 3) := by decide +kernel
theorem d_C_afterPointerPage_16 : decode c_C_afterPointerPage 16 = .ok (.iload_n 1, 1) := by decide +kernel
theorem d_C_afterPointerPage_17 : decode c_C_afterPointerPage 17 = .ok (.imul, 1) := by decide +kernel
theorem d_C_afterPointerPage_18 : decode c_C_afterPointerPage 18 = .ok (.iadd, 1) := by decide +kernel
theorem d_C_afterPointerPage_19 : decode c_C_afterPointerPage 19 = .ok (.invokevirtual 212, 3) := by decide +kernel
theorem d_C_afterPointerPage_22 : decode c_C_afterPointerPage 22 = .ok (.goto 15, 3) := by decide +kernel
theorem d_C_afterPointerPage_25 : decode c_C_afterPointerPage 25 = .ok (.aload_n 0, 1) := by decide +kernel
theorem d_C_afterPointerPage_26 : decode c_C_afterPointerPage 26 = .ok (.iload_n 1, 1) := by decide +kernel
theorem d_C_afterPointerPage_27 : decode c_C_afterPointerPage 27 = .ok (.aload_n 0, 1) := by decide +kernel
theorem d_C_afterPointerPage_28 : decode c_C_afterPointerPage 28 = .ok (.getfield 20, 3) := by decide +kernel
theorem d_C_afterPointerPage_31 : decode c_C_afterPointerPage 31 = .ok (.getfield 80, 3) := by decide +kernel
theorem d_C_afterPointerPage_34 : decode c_C_afterPointerPage 34 = .ok (.invokevirtual 354, 3) := by decide +kernel
theorem d_C_afterPointerPage_37 : decode c_C_afterPointerPage 37 = .ok (.return_, 1) := by decide +kernel
theorem d_C_accessIndexed_0 : decode c_C_accessIndexed 0 = .ok (.aload_n 0, 1) := by decide +kernel
theorem d_C_accessIndexed_1 : decode c_C_accessIndexed 1 = .ok (.getfield 141, 3) := by decide +kernel
theorem d_C_accessIndexed_4 : decode c_C_accessIndexed 4 = .ok (.sipush 256, 3) := by decide +kernel
theorem d_C_accessIndexed_7 : decode c_C_accessIndexed 7 = .ok (.iload_n 1, 1) := by decide +kernel
theorem d_C_accessIndexed_8 : decode c_C_accessIndexed 8 = .ok (.imul, 1) := by decide +kernel
theorem d_C_accessIndexed_9 : decode c_C_accessIndexed 9 = .ok (.iadd, 1) := by decide +kernel
theorem d_C_accessIndexed_10 : decode c_C_accessIndexed 10 = .ok (.iload_n 2, 1) := by decide +kernel
theorem d_C_accessIndexed_11 : decode c_C_accessIndexed 11 = .ok (.iadd, 1) := by decide +kernel
theorem d_C_accessIndexed_12 : decode c_C_accessIndexed 12 = .ok (.ldc 101, 2) := by decide +kernel
theorem d_C_accessIndexed_14 : decode c_C_accessIndexed 14 = .ok (.iand, 1) := by decide +kernel
theorem d_C_accessIndexed_15 : decode c_C_accessIndexed 15 = .ok (.istore_n 3, 1) := by decide +kernel
theorem d_C_accessIndexed_16 : decode c_C_accessIndexed 16 = .ok (.sipush 256, 3) := by decide +kernel
theorem d_C_accessIndexed_19 : decode c_C_accessIndexed 19 = .ok (.iload_n 1, 1) := by decide +kernel
theorem d_C_accessIndexed_20 : decode c_C_accessIndexed 20 = .ok (.imul, 1) := by decide +kernel
theorem d_C_accessIndexed_21 : decode c_C_accessIndexed 21 = .ok (.iload_n 3, 1) := by decide +kernel
theorem d_C_accessIndexed_22 : decode c_C_accessIndexed 22 = .ok (.sipush 255, 3) := by decide +kernel
theorem d_C_accessIndexed_25 : decode c_C_accessIndexed 25 = .ok (.iand, 1) := by decide +kernel
theorem d_C_accessIndexed_26 : decode c_C_accessIndexed 26 = .ok (.iadd, 1) := by decide +kernel
theorem d_C_accessIndexed_27 : decode c_C_accessIndexed 27 = .ok (.istore 4, 2) := by decide +kernel
theorem d_C_accessIndexed_29 : decode c_C_accessIndexed 29 = .ok (.aload_n 0, 1) := by decide +kernel
theorem d_C_accessIndexed_30 : decode c_C_accessIndexed 30 = .ok (.getfield 39, 3) := by decide +kernel
theorem d_C_accessIndexed_33 : decode c_C_accessIndexed 33 = .ok (.getstatic 293, 3) := by decide +kernel
theorem d_C_accessIndexed_36 : decode c_C_accessIndexed 36 = .ok (.if_acmp .ne 17, 3) := by decide +kernel
theorem d_C_accessIndexed_39 : decode c_C_accessIndexed 39 = .ok (.iload_n 3, 1) := by decide +kernel
theorem d_C_accessIndexed_40 : decode c_C_accessIndexed 40 = .ok (.iload 4, 2) := by decide +kernel
theorem d_C_accessIndexed_42 : decode c_C_accessIndexed 42 = .ok (.if_icmp .ne 11, 3) := by decide +kernel
theorem d_C_accessIndexed_45 : decode c_C_accessIndexed 45 = .ok (.aload_n 0, 1) := by decide +kernel
theorem d_C_accessIndexed_46 : decode c_C_accessIndexed 46 = .ok (.iload_n 3, 1) := by decide +kernel
theorem d_C_accessIndexed_47 : decode c_C_accessIndexed 47 = .ok (.invokevirtual 212, 3) := by decide +kernel
theorem d_C_accessIndexed_50 : decode c_C_accessIndexed 50 = .ok (.goto 21, 3) := by decide +kernel
theorem d_C_accessIndexed_53 : decode c_C_accessIndexed 53 = .ok (.aload_n 0, 1) := by decide +kernel
theorem d_C_accessIndexed_54 : decode c_C_accessIndexed 54 = .ok (.iload_n 3, 1) := by decide +kernel
theorem d_C_accessIndexed_55 : decode c_C_accessIndexed 55 = .ok (.putfield 209, 3) := by decide +kernel
theorem d_C_accessIndexed_58 : decode c_C_accessIndexed 58 = .ok (.aload_n 0, 1) := by decide +kernel
theorem d_C_accessIndexed_59 : decode c_C_accessIndexed 59 = .ok (.iload 4, 2) := by decide +kernel
theorem d_C_accessIndexed_61 : decode c_C_accessIndexed 61 = .ok (.putfield 127, 3) := by decide +kernel
theorem d_C_accessIndexed_64 : decode c_C_accessIndexed 64 = .ok (.aload_n 0, 1) := by decide +kernel
