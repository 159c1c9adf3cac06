/-! decode rows (printed by my own program) -/
theorem d_R_init_0 : decode c_R_init 0 = .ok (.aload_n 0, 1) := by decide +kernel
theorem d_R_init_1 : decode c_R_init 1 = .ok (.invokespecial 3, 3) := by decide +kernel
theorem d_R_init_4 : decode c_R_init 4 = .ok (.return_, 1) := by decide +kernel
theorem d_R_changed_0 : decode c_R_changed 0 = .ok (.iload_n 1, 1) := by decide +kernel
theorem d_R_changed_1 : decode c_R_changed 1 = .ok (.tableswitch 57 10 12 #[27, 37, 47], 27) := by decide +kernel
theorem d_R_changed_28 : decode c_R_changed 28 = .ok (.iload_n 2, 1) := by decide +kernel
theorem d_R_changed_29 : decode c_R_changed 29 = .ok (.iconst 1, 1) := by decide +kernel
theorem d_R_changed_30 : decode c_R_changed 30 = .ok (.iadd, 1) := by decide +kernel
theorem d_R_changed_31 : decode c_R_changed 31 = .ok (.sipush 255, 3) := by decide +kernel
theorem d_R_changed_34 : decode c_R_changed 34 = .ok (.iand, 1) := by decide +kernel
theorem d_R_changed_35 : decode c_R_changed 35 = .ok (.goto 26, 3) := by decide +kernel
theorem d_R_changed_38 : decode c_R_changed 38 = .ok (.iload_n 2, 1) := by decide +kernel
theorem d_R_changed_39 : decode c_R_changed 39 = .ok (.iconst 1, 1) := by decide +kernel
theorem d_R_changed_40 : decode c_R_changed 40 = .ok (.isub, 1) := by decide +kernel
theorem d_R_changed_41 : decode c_R_changed 41 = .ok (.sipush 255, 3) := by decide +kernel
theorem d_R_changed_44 : decode c_R_changed 44 = .ok (.iand, 1) := by decide +kernel
theorem d_R_changed_45 : decode c_R_changed 45 = .ok (.goto 16, 3) := by decide +kernel
theorem d_R_changed_48 : decode c_R_changed 48 = .ok (.iload_n 2, 1) := by decide +kernel
theorem d_R_changed_49 : decode c_R_changed 49 = .ok (.iconst 1, 1) := by decide +kernel
theorem d_R_changed_50 : decode c_R_changed 50 = .ok (.ishl, 1) := by decide +kernel
theorem d_R_changed_51 : decode c_R_changed 51 = .ok (.sipush 255, 3) := by decide +kernel
theorem d_R_changed_54 : decode c_R_changed 54 = .ok (.iand, 1) := by decide +kernel
theorem d_R_changed_55 : decode c_R_changed 55 = .ok (.goto 6, 3) := by decide +kernel
theorem d_R_changed_58 : decode c_R_changed 58 = .ok (.iload_n 2, 1) := by decide +kernel
theorem d_R_changed_59 : decode c_R_changed 59 = .ok (.iconst 1, 1) := by decide +kernel
theorem d_R_changed_60 : decode c_R_changed 60 = .ok (.ishr, 1) := by decide +kernel
theorem d_R_changed_61 : decode c_R_changed 61 = .ok (.ireturn, 1) := by decide +kernel
theorem d_R_p_0 : decode c_R_p 0 = .ok (.aload_n 0, 1) := by decide +kernel
theorem d_R_p_1 : decode c_R_p 1 = .ok (.getfield 9, 3) := by decide +kernel
theorem d_R_p_4 : decode c_R_p 4 = .ok (.bipush 32, 2) := by decide +kernel
theorem d_R_p_6 : decode c_R_p 6 = .ok (.iadd, 1) := by decide +kernel
theorem d_R_p_7 : decode c_R_p 7 = .ok (.ireturn, 1) := by decide +kernel
theorem d_R_flagsOfChange_0 : decode c_R_flagsOfChange 0 = .ok (.iload_n 1, 1) := by decide +kernel
theorem d_R_flagsOfChange_1 : decode c_R_flagsOfChange 1 = .ok (.bipush 12, 2) := by decide +kernel
theorem d_R_flagsOfChange_3 : decode c_R_flagsOfChange 3 = .ok (.if_icmp .ne 23, 3) := by decide +kernel
theorem d_R_flagsOfChange_6 : decode c_R_flagsOfChange 6 = .ok (.aload_n 0, 1) := by decide +kernel
theorem d_R_flagsOfChange_7 : decode c_R_flagsOfChange 7 = .ok (.iconst 1, 1) := by decide +kernel
theorem d_R_flagsOfChange_8 : decode c_R_flagsOfChange 8 = .ok (.iload_n 2, 1) := by decide +kernel
theorem d_R_flagsOfChange_9 : decode c_R_flagsOfChange 9 = .ok (.sipush 128, 3) := by decide +kernel
theorem d_R_flagsOfChange_12 : decode c_R_flagsOfChange 12 = .ok (.if_icmp .lt 7, 3) := by decide +kernel
theorem d_R_flagsOfChange_15 : decode c_R_flagsOfChange 15 = .ok (.iconst 1, 1) := by decide +kernel
theorem d_R_flagsOfChange_16 : decode c_R_flagsOfChange 16 = .ok (.goto 4, 3) := by decide +kernel
theorem d_R_flagsOfChange_19 : decode c_R_flagsOfChange 19 = .ok (.iconst 0, 1) := by decide +kernel
theorem d_R_flagsOfChange_20 : decode c_R_flagsOfChange 20 = .ok (.invokevirtual 57, 3) := by decide +kernel
theorem d_R_flagsOfChange_23 : decode c_R_flagsOfChange 23 = .ok (.goto 26, 3) := by decide +kernel
theorem d_R_flagsOfChange_26 : decode c_R_flagsOfChange 26 = .ok (.iload_n 1, 1) := by decide +kernel
theorem d_R_flagsOfChange_27 : decode c_R_flagsOfChange 27 = .ok (.bipush 13, 2) := by decide +kernel
theorem d_R_flagsOfChange_29 : decode c_R_flagsOfChange 29 = .ok (.if_icmp .ne 20, 3) := by decide +kernel
theorem d_R_flagsOfChange_32 : decode c_R_flagsOfChange 32 = .ok (.aload_n 0, 1) := by decide +kernel
theorem d_R_flagsOfChange_33 : decode c_R_flagsOfChange 33 = .ok (.iconst 1, 1) := by decide +kernel
theorem d_R_flagsOfChange_34 : decode c_R_flagsOfChange 34 = .ok (.iload_n 2, 1) := by decide +kernel
theorem d_R_flagsOfChange_35 : decode c_R_flagsOfChange 35 = .ok (.iconst 1, 1) := by decide +kernel
theorem d_R_flagsOfChange_36 : decode c_R_flagsOfChange 36 = .ok (.iand, 1) := by decide +kernel
theorem d_R_flagsOfChange_37 : decode c_R_flagsOfChange 37 = .ok (.iconst 1, 1) := by decide +kernel
theorem d_R_flagsOfChange_38 : decode c_R_flagsOfChange 38 = .ok (.if_icmp .ne 7, 3) := by decide +kernel
theorem d_R_flagsOfChange_41 : decode c_R_flagsOfChange 41 = .ok (.iconst 1, 1) := by decide +kernel
theorem d_R_flagsOfChange_42 : decode c_R_flagsOfChange 42 = .ok (.goto 4, 3) := by decide +kernel
theorem d_R_flagsOfChange_45 : decode c_R_flagsOfChange 45 = .ok (.iconst 0, 1) := by decide +kernel
theorem d_R_flagsOfChange_46 : decode c_R_flagsOfChange 46 = .ok (.invokevirtual 57, 3) := by decide +kernel
theorem d_R_flagsOfChange_49 : decode c_R_flagsOfChange 49 = .ok (.aload_n 0, 1) := by decide +kernel
theorem d_R_flagsOfChange_50 : decode c_R_flagsOfChange 50 = .ok (.aload_n 0, 1) := by decide +kernel
theorem d_R_flagsOfChange_51 : decode c_R_flagsOfChange 51 = .ok (.iload_n 1, 1) := by decide +kernel
theorem d_R_flagsOfChange_52 : decode c_R_flagsOfChange 52 = .ok (.iload_n 2, 1) := by decide +kernel
theorem d_R_flagsOfChange_53 : decode c_R_flagsOfChange 53 = .ok (.invokevirtual 61, 3) := by decide +kernel
theorem d_R_flagsOfChange_56 : decode c_R_flagsOfChange 56 = .ok (.invokevirtual 25, 3) := by decide +kernel
theorem d_R_flagsOfChange_59 : decode c_R_flagsOfChange 59 = .ok (.return_, 1) := by decide +kernel
theorem d_R_put_0 : decode c_R_put 0 = .ok (.aload_n 0, 1) := by decide +kernel
theorem d_R_put_1 : decode c_R_put 1 = .ok (.iload_n 2, 1) := by decide +kernel
theorem d_R_put_2 : decode c_R_put 2 = .ok (.ifCond .eq 12, 3) := by decide +kernel
theorem d_R_put_5 : decode c_R_put 5 = .ok (.aload_n 0, 1) := by decide +kernel
theorem d_R_put_6 : decode c_R_put 6 = .ok (.getfield 9, 3) := by decide +kernel
theorem d_R_put_9 : decode c_R_put 9 = .ok (.iload_n 1, 1) := by decide +kernel
theorem d_R_put_10 : decode c_R_put 10 = .ok (.ior, 1) := by decide +kernel
theorem d_R_put_11 : decode c_R_put 11 = .ok (.goto 11, 3) := by decide +kernel
theorem d_R_put_14 : decode c_R_put 14 = .ok (.aload_n 0, 1) := by decide +kernel
theorem d_R_put_15 : decode c_R_put 15 = .ok (.getfield 9, 3) := by decide +kernel
theorem d_R_put_18 : decode c_R_put 18 = .ok (.iload_n 1, 1) := by decide +kernel
theorem d_R_put_19 : decode c_R_put 19 = .ok (.iconst (-1), 1) := by decide +kernel
theorem d_R_put_20 : decode c_R_put 20 = .ok (.ixor, 1) := by decide +kernel
theorem d_R_put_21 : decode c_R_put 21 = .ok (.iand, 1) := by decide +kernel
theorem d_R_put_22 : decode c_R_put 22 = .ok (.putfield 9, 3) := by decide +kernel
theorem d_R_put_25 : decode c_R_put 25 = .ok (.return_, 1) := by decide +kernel
theorem d_R_putNz_0 : decode c_R_putNz 0 = .ok (.aload_n 0, 1) := by decide +kernel
theorem d_R_putNz_1 : decode c_R_putNz 1 = .ok (.getfield 9, 3) := by decide +kernel
theorem d_R_putNz_4 : decode c_R_putNz 4 = .ok (.sipush (-131), 3) := by decide +kernel
theorem d_R_putNz_7 : decode c_R_putNz 7 = .ok (.iand, 1) := by decide +kernel
theorem d_R_putNz_8 : decode c_R_putNz 8 = .ok (.istore_n 2, 1) := by decide +kernel
theorem d_R_putNz_9 : decode c_R_putNz 9 = .ok (.aload_n 0, 1) := by decide +kernel
theorem d_R_putNz_10 : decode c_R_putNz 10 = .ok (.iload_n 2, 1) := by decide +kernel
theorem d_R_putNz_11 : decode c_R_putNz 11 = .ok (.iload_n 1, 1) := by decide +kernel
theorem d_R_putNz_12 : decode c_R_putNz 12 = .ok (.sipush 128, 3) := by decide +kernel
theorem d_R_putNz_15 : decode c_R_putNz 15 = .ok (.iand, 1) := by decide +kernel
theorem d_R_putNz_16 : decode c_R_putNz 16 = .ok (.ior, 1) := by decide +kernel
theorem d_R_putNz_17 : decode c_R_putNz 17 = .ok (.iload_n 1, 1) := by decide +kernel
theorem d_R_putNz_18 : decode c_R_putNz 18 = .ok (.ifCond .ne 7, 3) := by decide +kernel
theorem d_R_putNz_21 : decode c_R_putNz 21 = .ok (.iconst 2, 1) := by decide +kernel
theorem d_R_putNz_22 : decode c_R_putNz 22 = .ok (.goto 4, 3) := by decide +kernel
theorem d_R_putNz_25 : decode c_R_putNz 25 = .ok (.iconst 0, 1) := by decide +kernel
theorem d_R_putNz_26 : decode c_R_putNz 26 = .ok (.ior, 1) := by decide +kernel
theorem d_R_putNz_27 : decode c_R_putNz 27 = .ok (.putfield 9, 3) := by decide +kernel
theorem d_R_putNz_30 : decode c_R_putNz 30 = .ok (.return_, 1) := by decide +kernel
theorem d_R_has_0 : decode c_R_has 0 = .ok (.aload_n 0, 1) := by decide +kernel
theorem d_R_has_1 : decode c_R_has 1 = .ok (.getfield 9, 3) := by decide +kernel
theorem d_R_has_4 : decode c_R_has 4 = .ok (.iload_n 1, 1) := by decide +kernel
theorem d_R_has_5 : decode c_R_has 5 = .ok (.iand, 1) := by decide +kernel
theorem d_R_has_6 : decode c_R_has 6 = .ok (.ifCond .eq 7, 3) := by decide +kernel
theorem d_R_has_9 : decode c_R_has 9 = .ok (.iconst 1, 1) := by decide +kernel
theorem d_R_has_10 : decode c_R_has 10 = .ok (.goto 4, 3) := by decide +kernel
theorem d_R_has_13 : decode c_R_has 13 = .ok (.iconst 0, 1) := by decide +kernel
theorem d_R_has_14 : decode c_R_has 14 = .ok (.ireturn, 1) := by decide +kernel
theorem d_R_moveStack_0 : decode c_R_moveStack 0 = .ok (.aload_n 0, 1) := by decide +kernel
theorem d_R_moveStack_1 : decode c_R_moveStack 1 = .ok (.aload_n 0, 1) := by decide +kernel
theorem d_R_moveStack_2 : decode c_R_moveStack 2 = .ok (.getfield 19, 3) := by decide +kernel
theorem d_R_moveStack_5 : decode c_R_moveStack 5 = .ok (.iload_n 1, 1) := by decide +kernel
theorem d_R_moveStack_6 : decode c_R_moveStack 6 = .ok (.iadd, 1) := by decide +kernel
theorem d_R_moveStack_7 : decode c_R_moveStack 7 = .ok (.sipush 255, 3) := by decide +kernel
theorem d_R_moveStack_10 : decode c_R_moveStack 10 = .ok (.iand, 1) := by decide +kernel
theorem d_R_moveStack_11 : decode c_R_moveStack 11 = .ok (.putfield 19, 3) := by decide +kernel
theorem d_R_moveStack_14 : decode c_R_moveStack 14 = .ok (.return_, 1) := by decide +kernel
theorem d_R_nextPc_0 : decode c_R_nextPc 0 = .ok (.aload_n 0, 1) := by decide +kernel
theorem d_R_nextPc_1 : decode c_R_nextPc 1 = .ok (.aload_n 0, 1) := by decide +kernel
theorem d_R_nextPc_2 : decode c_R_nextPc 2 = .ok (.getfield 15, 3) := by decide +kernel
theorem d_R_nextPc_5 : decode c_R_nextPc 5 = .ok (.iconst 1, 1) := by decide +kernel
theorem d_R_nextPc_6 : decode c_R_nextPc 6 = .ok (.iadd, 1) := by decide +kernel
theorem d_R_nextPc_7 : decode c_R_nextPc 7 = .ok (.ldc 18, 2) := by decide +kernel
theorem d_R_nextPc_9 : decode c_R_nextPc 9 = .ok (.iand, 1) := by decide +kernel
theorem d_R_nextPc_10 : decode c_R_nextPc 10 = .ok (.putfield 15, 3) := by decide +kernel
theorem d_R_nextPc_13 : decode c_R_nextPc 13 = .ok (.return_, 1) := by decide +kernel
theorem d_R_operate_0 : decode c_R_operate 0 = .ok (.iload_n 1, 1) := by decide +kernel
theorem d_R_operate_1 : decode c_R_operate 1 = .ok (.tableswitch 130 0 8 #[51, 130, 59, 67, 75, 88, 101, 114, 122], 51) := by decide +kernel
theorem d_R_operate_52 : decode c_R_operate 52 = .ok (.aload_n 0, 1) := by decide +kernel
theorem d_R_operate_53 : decode c_R_operate 53 = .ok (.iload_n 2, 1) := by decide +kernel
theorem d_R_operate_54 : decode c_R_operate 54 = .ok (.invokevirtual 39, 3) := by decide +kernel
theorem d_R_operate_57 : decode c_R_operate 57 = .ok (.goto 79, 3) := by decide +kernel
theorem d_R_operate_60 : decode c_R_operate 60 = .ok (.aload_n 0, 1) := by decide +kernel
theorem d_R_operate_61 : decode c_R_operate 61 = .ok (.iload_n 2, 1) := by decide +kernel
theorem d_R_operate_62 : decode c_R_operate 62 = .ok (.invokevirtual 42, 3) := by decide +kernel
theorem d_R_operate_65 : decode c_R_operate 65 = .ok (.goto 71, 3) := by decide +kernel
theorem d_R_operate_68 : decode c_R_operate 68 = .ok (.aload_n 0, 1) := by decide +kernel
theorem d_R_operate_69 : decode c_R_operate 69 = .ok (.iload_n 2, 1) := by decide +kernel
theorem d_R_operate_70 : decode c_R_operate 70 = .ok (.invokevirtual 45, 3) := by decide +kernel
theorem d_R_operate_73 : decode c_R_operate 73 = .ok (.goto 63, 3) := by decide +kernel
theorem d_R_operate_76 : decode c_R_operate 76 = .ok (.aload_n 0, 1) := by decide +kernel
theorem d_R_operate_77 : decode c_R_operate 77 = .ok (.aload_n 0, 1) := by decide +kernel
theorem d_R_operate_78 : decode c_R_operate 78 = .ok (.getfield 22, 3) := by decide +kernel
theorem d_R_operate_81 : decode c_R_operate 81 = .ok (.iload_n 2, 1) := by decide +kernel
theorem d_R_operate_82 : decode c_R_operate 82 = .ok (.iand, 1) := by decide +kernel
theorem d_R_operate_83 : decode c_R_operate 83 = .ok (.invokevirtual 39, 3) := by decide +kernel
theorem d_R_operate_86 : decode c_R_operate 86 = .ok (.goto 50, 3) := by decide +kernel
theorem d_R_operate_89 : decode c_R_operate 89 = .ok (.aload_n 0, 1) := by decide +kernel
theorem d_R_operate_90 : decode c_R_operate 90 = .ok (.aload_n 0, 1) := by decide +kernel
theorem d_R_operate_91 : decode c_R_operate 91 = .ok (.getfield 22, 3) := by decide +kernel
theorem d_R_operate_94 : decode c_R_operate 94 = .ok (.iload_n 2, 1) := by decide +kernel
theorem d_R_operate_95 : decode c_R_operate 95 = .ok (.ior, 1) := by decide +kernel
theorem d_R_operate_96 : decode c_R_operate 96 = .ok (.invokevirtual 39, 3) := by decide +kernel
theorem d_R_operate_99 : decode c_R_operate 99 = .ok (.goto 37, 3) := by decide +kernel
theorem d_R_operate_102 : decode c_R_operate 102 = .ok (.aload_n 0, 1) := by decide +kernel
theorem d_R_operate_103 : decode c_R_operate 103 = .ok (.aload_n 0, 1) := by decide +kernel
theorem d_R_operate_104 : decode c_R_operate 104 = .ok (.getfield 22, 3) := by decide +kernel
theorem d_R_operate_107 : decode c_R_operate 107 = .ok (.iload_n 2, 1) := by decide +kernel
theorem d_R_operate_108 : decode c_R_operate 108 = .ok (.ixor, 1) := by decide +kernel
theorem d_R_operate_109 : decode c_R_operate 109 = .ok (.invokevirtual 39, 3) := by decide +kernel
theorem d_R_operate_112 : decode c_R_operate 112 = .ok (.goto 24, 3) := by decide +kernel
theorem d_R_operate_115 : decode c_R_operate 115 = .ok (.aload_n 0, 1) := by decide +kernel
theorem d_R_operate_116 : decode c_R_operate 116 = .ok (.iload_n 2, 1) := by decide +kernel
theorem d_R_operate_117 : decode c_R_operate 117 = .ok (.invokevirtual 48, 3) := by decide +kernel
theorem d_R_operate_120 : decode c_R_operate 120 = .ok (.goto 16, 3) := by decide +kernel
theorem d_R_operate_123 : decode c_R_operate 123 = .ok (.aload_n 0, 1) := by decide +kernel
theorem d_R_operate_124 : decode c_R_operate 124 = .ok (.iload_n 2, 1) := by decide +kernel
theorem d_R_operate_125 : decode c_R_operate 125 = .ok (.invokevirtual 51, 3) := by decide +kernel
theorem d_R_operate_128 : decode c_R_operate 128 = .ok (.goto 8, 3) := by decide +kernel
theorem d_R_operate_131 : decode c_R_operate 131 = .ok (.aload_n 0, 1) := by decide +kernel
theorem d_R_operate_132 : decode c_R_operate 132 = .ok (.iload_n 2, 1) := by decide +kernel
theorem d_R_operate_133 : decode c_R_operate 133 = .ok (.invokevirtual 54, 3) := by decide +kernel
theorem d_R_operate_136 : decode c_R_operate 136 = .ok (.return_, 1) := by decide +kernel
theorem d_R_loadA_0 : decode c_R_loadA 0 = .ok (.aload_n 0, 1) := by decide +kernel
theorem d_R_loadA_1 : decode c_R_loadA 1 = .ok (.iload_n 1, 1) := by decide +kernel
theorem d_R_loadA_2 : decode c_R_loadA 2 = .ok (.sipush 255, 3) := by decide +kernel
theorem d_R_loadA_5 : decode c_R_loadA 5 = .ok (.iand, 1) := by decide +kernel
theorem d_R_loadA_6 : decode c_R_loadA 6 = .ok (.putfield 22, 3) := by decide +kernel
theorem d_R_loadA_9 : decode c_R_loadA 9 = .ok (.aload_n 0, 1) := by decide +kernel
theorem d_R_loadA_10 : decode c_R_loadA 10 = .ok (.aload_n 0, 1) := by decide +kernel
theorem d_R_loadA_11 : decode c_R_loadA 11 = .ok (.getfield 22, 3) := by decide +kernel
theorem d_R_loadA_14 : decode c_R_loadA 14 = .ok (.invokevirtual 25, 3) := by decide +kernel
theorem d_R_loadA_17 : decode c_R_loadA 17 = .ok (.return_, 1) := by decide +kernel
theorem d_R_add_0 : decode c_R_add 0 = .ok (.aload_n 0, 1) := by decide +kernel
theorem d_R_add_1 : decode c_R_add 1 = .ok (.bipush 8, 2) := by decide +kernel
theorem d_R_add_3 : decode c_R_add 3 = .ok (.invokevirtual 35, 3) := by decide +kernel
theorem d_R_add_6 : decode c_R_add 6 = .ok (.ifCond .eq 11, 3) := by decide +kernel
theorem d_R_add_9 : decode c_R_add 9 = .ok (.aload_n 0, 1) := by decide +kernel
theorem d_R_add_10 : decode c_R_add 10 = .ok (.iload_n 1, 1) := by decide +kernel
theorem d_R_add_11 : decode c_R_add 11 = .ok (.invokevirtual 65, 3) := by decide +kernel
theorem d_R_add_14 : decode c_R_add 14 = .ok (.goto 30, 3) := by decide +kernel
theorem d_R_add_17 : decode c_R_add 17 = .ok (.aload_n 0, 1) := by decide +kernel
theorem d_R_add_18 : decode c_R_add 18 = .ok (.getfield 22, 3) := by decide +kernel
theorem d_R_add_21 : decode c_R_add 21 = .ok (.iload_n 1, 1) := by decide +kernel
theorem d_R_add_22 : decode c_R_add 22 = .ok (.iadd, 1) := by decide +kernel
theorem d_R_add_23 : decode c_R_add 23 = .ok (.aload_n 0, 1) := by decide +kernel
theorem d_R_add_24 : decode c_R_add 24 = .ok (.invokevirtual 68, 3) := by decide +kernel
theorem d_R_add_27 : decode c_R_add 27 = .ok (.iadd, 1) := by decide +kernel
theorem d_R_add_28 : decode c_R_add 28 = .ok (.istore_n 2, 1) := by decide +kernel
theorem d_R_add_29 : decode c_R_add 29 = .ok (.aload_n 0, 1) := by decide +kernel
theorem d_R_add_30 : decode c_R_add 30 = .ok (.iload_n 1, 1) := by decide +kernel
theorem d_R_add_31 : decode c_R_add 31 = .ok (.iload_n 2, 1) := by decide +kernel
theorem d_R_add_32 : decode c_R_add 32 = .ok (.invokevirtual 72, 3) := by decide +kernel
theorem d_R_add_35 : decode c_R_add 35 = .ok (.aload_n 0, 1) := by decide +kernel
theorem d_R_add_36 : decode c_R_add 36 = .ok (.iload_n 2, 1) := by decide +kernel
theorem d_R_add_37 : decode c_R_add 37 = .ok (.sipush 255, 3) := by decide +kernel
theorem d_R_add_40 : decode c_R_add 40 = .ok (.iand, 1) := by decide +kernel
theorem d_R_add_41 : decode c_R_add 41 = .ok (.putfield 22, 3) := by decide +kernel
theorem d_R_add_44 : decode c_R_add 44 = .ok (.return_, 1) := by decide +kernel
theorem d_R_addDecimal_0 : decode c_R_addDecimal 0 = .ok (.aload_n 0, 1) := by decide +kernel
theorem d_R_addDecimal_1 : decode c_R_addDecimal 1 = .ok (.getfield 22, 3) := by decide +kernel
theorem d_R_addDecimal_4 : decode c_R_addDecimal 4 = .ok (.bipush 15, 2) := by decide +kernel
theorem d_R_addDecimal_6 : decode c_R_addDecimal 6 = .ok (.iand, 1) := by decide +kernel
theorem d_R_addDecimal_7 : decode c_R_addDecimal 7 = .ok (.iload_n 1, 1) := by decide +kernel
theorem d_R_addDecimal_8 : decode c_R_addDecimal 8 = .ok (.bipush 15, 2) := by decide +kernel
theorem d_R_addDecimal_10 : decode c_R_addDecimal 10 = .ok (.iand, 1) := by decide +kernel
theorem d_R_addDecimal_11 : decode c_R_addDecimal 11 = .ok (.iadd, 1) := by decide +kernel
theorem d_R_addDecimal_12 : decode c_R_addDecimal 12 = .ok (.aload_n 0, 1) := by decide +kernel
theorem d_R_addDecimal_13 : decode c_R_addDecimal 13 = .ok (.invokevirtual 68, 3) := by decide +kernel
theorem d_R_addDecimal_16 : decode c_R_addDecimal 16 = .ok (.iadd, 1) := by decide +kernel
theorem d_R_addDecimal_17 : decode c_R_addDecimal 17 = .ok (.istore_n 2, 1) := by decide +kernel
theorem d_R_addDecimal_18 : decode c_R_addDecimal 18 = .ok (.iload_n 2, 1) := by decide +kernel
theorem d_R_addDecimal_19 : decode c_R_addDecimal 19 = .ok (.bipush 9, 2) := by decide +kernel
theorem d_R_addDecimal_21 : decode c_R_addDecimal 21 = .ok (.if_icmp .le 6, 3) := by decide +kernel
theorem d_R_addDecimal_24 : decode c_R_addDecimal 24 = .ok (.iinc 2 6, 3) := by decide +kernel
theorem d_R_addDecimal_27 : decode c_R_addDecimal 27 = .ok (.aload_n 0, 1) := by decide +kernel
theorem d_R_addDecimal_28 : decode c_R_addDecimal 28 = .ok (.getfield 22, 3) := by decide +kernel
theorem d_R_addDecimal_31 : decode c_R_addDecimal 31 = .ok (.iconst 4, 1) := by decide +kernel
theorem d_R_addDecimal_32 : decode c_R_addDecimal 32 = .ok (.ishr, 1) := by decide +kernel
theorem d_R_addDecimal_33 : decode c_R_addDecimal 33 = .ok (.iload_n 1, 1) := by decide +kernel
theorem d_R_addDecimal_34 : decode c_R_addDecimal 34 = .ok (.iconst 4, 1) := by decide +kernel
theorem d_R_addDecimal_35 : decode c_R_addDecimal 35 = .ok (.ishr, 1) := by decide +kernel
theorem d_R_addDecimal_36 : decode c_R_addDecimal 36 = .ok (.iadd, 1) := by decide +kernel
theorem d_R_addDecimal_37 : decode c_R_addDecimal 37 = .ok (.iload_n 2, 1) := by decide +kernel
theorem d_R_addDecimal_38 : decode c_R_addDecimal 38 = .ok (.bipush 15, 2) := by decide +kernel
theorem d_R_addDecimal_40 : decode c_R_addDecimal 40 = .ok (.if_icmp .le 7, 3) := by decide +kernel
theorem d_R_addDecimal_43 : decode c_R_addDecimal 43 = .ok (.iconst 1, 1) := by decide +kernel
theorem d_R_addDecimal_44 : decode c_R_addDecimal 44 = .ok (.goto 4, 3) := by decide +kernel
theorem d_R_addDecimal_47 : decode c_R_addDecimal 47 = .ok (.iconst 0, 1) := by decide +kernel
theorem d_R_addDecimal_48 : decode c_R_addDecimal 48 = .ok (.iadd, 1) := by decide +kernel
theorem d_R_addDecimal_49 : decode c_R_addDecimal 49 = .ok (.istore_n 3, 1) := by decide +kernel
theorem d_R_addDecimal_50 : decode c_R_addDecimal 50 = .ok (.iload_n 3, 1) := by decide +kernel
theorem d_R_addDecimal_51 : decode c_R_addDecimal 51 = .ok (.bipush 8, 2) := by decide +kernel
theorem d_R_addDecimal_53 : decode c_R_addDecimal 53 = .ok (.iand, 1) := by decide +kernel
theorem d_R_addDecimal_54 : decode c_R_addDecimal 54 = .ok (.ifCond .eq 7, 3) := by decide +kernel
theorem d_R_addDecimal_57 : decode c_R_addDecimal 57 = .ok (.iconst 1, 1) := by decide +kernel
theorem d_R_addDecimal_58 : decode c_R_addDecimal 58 = .ok (.goto 4, 3) := by decide +kernel
theorem d_R_addDecimal_61 : decode c_R_addDecimal 61 = .ok (.iconst 0, 1) := by decide +kernel
theorem d_R_addDecimal_62 : decode c_R_addDecimal 62 = .ok (.istore 4, 2) := by decide +kernel
theorem d_R_addDecimal_64 : decode c_R_addDecimal 64 = .ok (.aload_n 0, 1) := by decide +kernel
theorem d_R_addDecimal_65 : decode c_R_addDecimal 65 = .ok (.iconst 2, 1) := by decide +kernel
theorem d_R_addDecimal_66 : decode c_R_addDecimal 66 = .ok (.aload_n 0, 1) := by decide +kernel
theorem d_R_addDecimal_67 : decode c_R_addDecimal 67 = .ok (.getfield 22, 3) := by decide +kernel
theorem d_R_addDecimal_70 : decode c_R_addDecimal 70 = .ok (.iload_n 1, 1) := by decide +kernel
theorem d_R_addDecimal_71 : decode c_R_addDecimal 71 = .ok (.iadd, 1) := by decide +kernel
theorem d_R_addDecimal_72 : decode c_R_addDecimal 72 = .ok (.aload_n 0, 1) := by decide +kernel
theorem d_R_addDecimal_73 : decode c_R_addDecimal 73 = .ok (.invokevirtual 68, 3) := by decide +kernel
theorem d_R_addDecimal_76 : decode c_R_addDecimal 76 = .ok (.iadd, 1) := by decide +kernel
theorem d_R_addDecimal_77 : decode c_R_addDecimal 77 = .ok (.sipush 255, 3) := by decide +kernel
theorem d_R_addDecimal_80 : decode c_R_addDecimal 80 = .ok (.iand, 1) := by decide +kernel
theorem d_R_addDecimal_81 : decode c_R_addDecimal 81 = .ok (.ifCond .ne 7, 3) := by decide +kernel
theorem d_R_addDecimal_84 : decode c_R_addDecimal 84 = .ok (.iconst 1, 1) := by decide +kernel
theorem d_R_addDecimal_85 : decode c_R_addDecimal 85 = .ok (.goto 4, 3) := by decide +kernel
theorem d_R_addDecimal_88 : decode c_R_addDecimal 88 = .ok (.iconst 0, 1) := by decide +kernel
theorem d_R_addDecimal_89 : decode c_R_addDecimal 89 = .ok (.invokevirtual 57, 3) := by decide +kernel
theorem d_R_addDecimal_92 : decode c_R_addDecimal 92 = .ok (.aload_n 0, 1) := by decide +kernel
theorem d_R_addDecimal_93 : decode c_R_addDecimal 93 = .ok (.sipush 128, 3) := by decide +kernel
theorem d_R_addDecimal_96 : decode c_R_addDecimal 96 = .ok (.iload 4, 2) := by decide +kernel
theorem d_R_addDecimal_98 : decode c_R_addDecimal 98 = .ok (.invokevirtual 57, 3) := by decide +kernel
theorem d_R_addDecimal_101 : decode c_R_addDecimal 101 = .ok (.aload_n 0, 1) := by decide +kernel
theorem d_R_addDecimal_102 : decode c_R_addDecimal 102 = .ok (.bipush 64, 2) := by decide +kernel
theorem d_R_addDecimal_104 : decode c_R_addDecimal 104 = .ok (.aload_n 0, 1) := by decide +kernel
theorem d_R_addDecimal_105 : decode c_R_addDecimal 105 = .ok (.iload_n 1, 1) := by decide +kernel
theorem d_R_addDecimal_106 : decode c_R_addDecimal 106 = .ok (.iload 4, 2) := by decide +kernel
theorem d_R_addDecimal_108 : decode c_R_addDecimal 108 = .ok (.invokevirtual 76, 3) := by decide +kernel
theorem d_R_addDecimal_111 : decode c_R_addDecimal 111 = .ok (.invokevirtual 57, 3) := by decide +kernel
theorem d_R_addDecimal_114 : decode c_R_addDecimal 114 = .ok (.iload_n 3, 1) := by decide +kernel
theorem d_R_addDecimal_115 : decode c_R_addDecimal 115 = .ok (.bipush 9, 2) := by decide +kernel
theorem d_R_addDecimal_117 : decode c_R_addDecimal 117 = .ok (.if_icmp .le 6, 3) := by decide +kernel
theorem d_R_addDecimal_120 : decode c_R_addDecimal 120 = .ok (.iinc 3 6, 3) := by decide +kernel
theorem d_R_addDecimal_123 : decode c_R_addDecimal 123 = .ok (.aload_n 0, 1) := by decide +kernel
theorem d_R_addDecimal_124 : decode c_R_addDecimal 124 = .ok (.iconst 1, 1) := by decide +kernel
theorem d_R_addDecimal_125 : decode c_R_addDecimal 125 = .ok (.iload_n 3, 1) := by decide +kernel
theorem d_R_addDecimal_126 : decode c_R_addDecimal 126 = .ok (.bipush 15, 2) := by decide +kernel
theorem d_R_addDecimal_128 : decode c_R_addDecimal 128 = .ok (.if_icmp .le 7, 3) := by decide +kernel
theorem d_R_addDecimal_131 : decode c_R_addDecimal 131 = .ok (.iconst 1, 1) := by decide +kernel
theorem d_R_addDecimal_132 : decode c_R_addDecimal 132 = .ok (.goto 4, 3) := by decide +kernel
theorem d_R_addDecimal_135 : decode c_R_addDecimal 135 = .ok (.iconst 0, 1) := by decide +kernel
theorem d_R_addDecimal_136 : decode c_R_addDecimal 136 = .ok (.invokevirtual 57, 3) := by decide +kernel
theorem d_R_addDecimal_139 : decode c_R_addDecimal 139 = .ok (.aload_n 0, 1) := by decide +kernel
theorem d_R_addDecimal_140 : decode c_R_addDecimal 140 = .ok (.bipush 16, 2) := by decide +kernel
theorem d_R_addDecimal_142 : decode c_R_addDecimal 142 = .ok (.iload_n 3, 1) := by decide +kernel
theorem d_R_addDecimal_143 : decode c_R_addDecimal 143 = .ok (.bipush 15, 2) := by decide +kernel
theorem d_R_addDecimal_145 : decode c_R_addDecimal 145 = .ok (.iand, 1) := by decide +kernel
theorem d_R_addDecimal_146 : decode c_R_addDecimal 146 = .ok (.imul, 1) := by decide +kernel
theorem d_R_addDecimal_147 : decode c_R_addDecimal 147 = .ok (.iload_n 2, 1) := by decide +kernel
theorem d_R_addDecimal_148 : decode c_R_addDecimal 148 = .ok (.bipush 15, 2) := by decide +kernel
theorem d_R_addDecimal_150 : decode c_R_addDecimal 150 = .ok (.iand, 1) := by decide +kernel
theorem d_R_addDecimal_151 : decode c_R_addDecimal 151 = .ok (.iadd, 1) := by decide +kernel
theorem d_R_addDecimal_152 : decode c_R_addDecimal 152 = .ok (.putfield 22, 3) := by decide +kernel
theorem d_R_addDecimal_155 : decode c_R_addDecimal 155 = .ok (.return_, 1) := by decide +kernel
theorem d_R_carry_0 : decode c_R_carry 0 = .ok (.aload_n 0, 1) := by decide +kernel
theorem d_R_carry_1 : decode c_R_carry 1 = .ok (.getfield 9, 3) := by decide +kernel
theorem d_R_carry_4 : decode c_R_carry 4 = .ok (.iconst 1, 1) := by decide +kernel
theorem d_R_carry_5 : decode c_R_carry 5 = .ok (.iand, 1) := by decide +kernel
theorem d_R_carry_6 : decode c_R_carry 6 = .ok (.ireturn, 1) := by decide +kernel
theorem d_R_differsInSign_0 : decode c_R_differsInSign 0 = .ok (.aload_n 0, 1) := by decide +kernel
theorem d_R_differsInSign_1 : decode c_R_differsInSign 1 = .ok (.getfield 22, 3) := by decide +kernel
theorem d_R_differsInSign_4 : decode c_R_differsInSign 4 = .ok (.sipush 128, 3) := by decide +kernel
theorem d_R_differsInSign_7 : decode c_R_differsInSign 7 = .ok (.if_icmp .lt 7, 3) := by decide +kernel
theorem d_R_differsInSign_10 : decode c_R_differsInSign 10 = .ok (.iconst 1, 1) := by decide +kernel
theorem d_R_differsInSign_11 : decode c_R_differsInSign 11 = .ok (.goto 4, 3) := by decide +kernel
theorem d_R_differsInSign_14 : decode c_R_differsInSign 14 = .ok (.iconst 0, 1) := by decide +kernel
theorem d_R_differsInSign_15 : decode c_R_differsInSign 15 = .ok (.istore_n 3, 1) := by decide +kernel
theorem d_R_differsInSign_16 : decode c_R_differsInSign 16 = .ok (.iload_n 3, 1) := by decide +kernel
theorem d_R_differsInSign_17 : decode c_R_differsInSign 17 = .ok (.iload_n 1, 1) := by decide +kernel
theorem d_R_differsInSign_18 : decode c_R_differsInSign 18 = .ok (.sipush 128, 3) := by decide +kernel
theorem d_R_differsInSign_21 : decode c_R_differsInSign 21 = .ok (.if_icmp .lt 7, 3) := by decide +kernel
theorem d_R_differsInSign_24 : decode c_R_differsInSign 24 = .ok (.iconst 1, 1) := by decide +kernel
theorem d_R_differsInSign_25 : decode c_R_differsInSign 25 = .ok (.goto 4, 3) := by decide +kernel
theorem d_R_differsInSign_28 : decode c_R_differsInSign 28 = .ok (.iconst 0, 1) := by decide +kernel
theorem d_R_differsInSign_29 : decode c_R_differsInSign 29 = .ok (.if_icmp .ne 12, 3) := by decide +kernel
theorem d_R_differsInSign_32 : decode c_R_differsInSign 32 = .ok (.iload_n 3, 1) := by decide +kernel
theorem d_R_differsInSign_33 : decode c_R_differsInSign 33 = .ok (.iload_n 2, 1) := by decide +kernel
theorem d_R_differsInSign_34 : decode c_R_differsInSign 34 = .ok (.if_icmp .eq 7, 3) := by decide +kernel
theorem d_R_differsInSign_37 : decode c_R_differsInSign 37 = .ok (.iconst 1, 1) := by decide +kernel
theorem d_R_differsInSign_38 : decode c_R_differsInSign 38 = .ok (.goto 4, 3) := by decide +kernel
theorem d_R_differsInSign_41 : decode c_R_differsInSign 41 = .ok (.iconst 0, 1) := by decide +kernel
theorem d_R_differsInSign_42 : decode c_R_differsInSign 42 = .ok (.ireturn, 1) := by decide +kernel
theorem d_R_flagsOfSum_0 : decode c_R_flagsOfSum 0 = .ok (.aload_n 0, 1) := by decide +kernel
theorem d_R_flagsOfSum_1 : decode c_R_flagsOfSum 1 = .ok (.iconst 1, 1) := by decide +kernel
theorem d_R_flagsOfSum_2 : decode c_R_flagsOfSum 2 = .ok (.iload_n 2, 1) := by decide +kernel
theorem d_R_flagsOfSum_3 : decode c_R_flagsOfSum 3 = .ok (.sipush 255, 3) := by decide +kernel
theorem d_R_flagsOfSum_6 : decode c_R_flagsOfSum 6 = .ok (.if_icmp .le 7, 3) := by decide +kernel
theorem d_R_flagsOfSum_9 : decode c_R_flagsOfSum 9 = .ok (.iconst 1, 1) := by decide +kernel
theorem d_R_flagsOfSum_10 : decode c_R_flagsOfSum 10 = .ok (.goto 4, 3) := by decide +kernel
theorem d_R_flagsOfSum_13 : decode c_R_flagsOfSum 13 = .ok (.iconst 0, 1) := by decide +kernel
theorem d_R_flagsOfSum_14 : decode c_R_flagsOfSum 14 = .ok (.invokevirtual 57, 3) := by decide +kernel
theorem d_R_flagsOfSum_17 : decode c_R_flagsOfSum 17 = .ok (.aload_n 0, 1) := by decide +kernel
theorem d_R_flagsOfSum_18 : decode c_R_flagsOfSum 18 = .ok (.bipush 64, 2) := by decide +kernel
theorem d_R_flagsOfSum_20 : decode c_R_flagsOfSum 20 = .ok (.aload_n 0, 1) := by decide +kernel
theorem d_R_flagsOfSum_21 : decode c_R_flagsOfSum 21 = .ok (.iload_n 1, 1) := by decide +kernel
theorem d_R_flagsOfSum_22 : decode c_R_flagsOfSum 22 = .ok (.iload_n 2, 1) := by decide +kernel
theorem d_R_flagsOfSum_23 : decode c_R_flagsOfSum 23 = .ok (.sipush 128, 3) := by decide +kernel
theorem d_R_flagsOfSum_26 : decode c_R_flagsOfSum 26 = .ok (.iand, 1) := by decide +kernel
theorem d_R_flagsOfSum_27 : decode c_R_flagsOfSum 27 = .ok (.ifCond .eq 7, 3) := by decide +kernel
theorem d_R_flagsOfSum_30 : decode c_R_flagsOfSum 30 = .ok (.iconst 1, 1) := by decide +kernel
theorem d_R_flagsOfSum_31 : decode c_R_flagsOfSum 31 = .ok (.goto 4, 3) := by decide +kernel
theorem d_R_flagsOfSum_34 : decode c_R_flagsOfSum 34 = .ok (.iconst 0, 1) := by decide +kernel
theorem d_R_flagsOfSum_35 : decode c_R_flagsOfSum 35 = .ok (.invokevirtual 76, 3) := by decide +kernel
theorem d_R_flagsOfSum_38 : decode c_R_flagsOfSum 38 = .ok (.invokevirtual 57, 3) := by decide +kernel
theorem d_R_flagsOfSum_41 : decode c_R_flagsOfSum 41 = .ok (.aload_n 0, 1) := by decide +kernel
theorem d_R_flagsOfSum_42 : decode c_R_flagsOfSum 42 = .ok (.iload_n 2, 1) := by decide +kernel
theorem d_R_flagsOfSum_43 : decode c_R_flagsOfSum 43 = .ok (.sipush 255, 3) := by decide +kernel
theorem d_R_flagsOfSum_46 : decode c_R_flagsOfSum 46 = .ok (.iand, 1) := by decide +kernel
theorem d_R_flagsOfSum_47 : decode c_R_flagsOfSum 47 = .ok (.invokevirtual 25, 3) := by decide +kernel
theorem d_R_flagsOfSum_50 : decode c_R_flagsOfSum 50 = .ok (.return_, 1) := by decide +kernel
theorem d_R_subtract_0 : decode c_R_subtract 0 = .ok (.aload_n 0, 1) := by decide +kernel
theorem d_R_subtract_1 : decode c_R_subtract 1 = .ok (.getfield 22, 3) := by decide +kernel
theorem d_R_subtract_4 : decode c_R_subtract 4 = .ok (.sipush 255, 3) := by decide +kernel
theorem d_R_subtract_7 : decode c_R_subtract 7 = .ok (.iload_n 1, 1) := by decide +kernel
theorem d_R_subtract_8 : decode c_R_subtract 8 = .ok (.isub, 1) := by decide +kernel
theorem d_R_subtract_9 : decode c_R_subtract 9 = .ok (.iadd, 1) := by decide +kernel
theorem d_R_subtract_10 : decode c_R_subtract 10 = .ok (.aload_n 0, 1) := by decide +kernel
theorem d_R_subtract_11 : decode c_R_subtract 11 = .ok (.invokevirtual 68, 3) := by decide +kernel
theorem d_R_subtract_14 : decode c_R_subtract 14 = .ok (.iadd, 1) := by decide +kernel
theorem d_R_subtract_15 : decode c_R_subtract 15 = .ok (.istore_n 2, 1) := by decide +kernel
theorem d_R_subtract_16 : decode c_R_subtract 16 = .ok (.aload_n 0, 1) := by decide +kernel
theorem d_R_subtract_17 : decode c_R_subtract 17 = .ok (.bipush 8, 2) := by decide +kernel
theorem d_R_subtract_19 : decode c_R_subtract 19 = .ok (.invokevirtual 35, 3) := by decide +kernel
theorem d_R_subtract_22 : decode c_R_subtract 22 = .ok (.ifCond .eq 11, 3) := by decide +kernel
theorem d_R_subtract_25 : decode c_R_subtract 25 = .ok (.aload_n 0, 1) := by decide +kernel
theorem d_R_subtract_26 : decode c_R_subtract 26 = .ok (.iload_n 1, 1) := by decide +kernel
theorem d_R_subtract_27 : decode c_R_subtract 27 = .ok (.invokevirtual 80, 3) := by decide +kernel
theorem d_R_subtract_30 : decode c_R_subtract 30 = .ok (.goto 8, 3) := by decide +kernel
theorem d_R_subtract_33 : decode c_R_subtract 33 = .ok (.iload_n 2, 1) := by decide +kernel
theorem d_R_subtract_34 : decode c_R_subtract 34 = .ok (.sipush 255, 3) := by decide +kernel
theorem d_R_subtract_37 : decode c_R_subtract 37 = .ok (.iand, 1) := by decide +kernel
theorem d_R_subtract_38 : decode c_R_subtract 38 = .ok (.istore_n 3, 1) := by decide +kernel
theorem d_R_subtract_39 : decode c_R_subtract 39 = .ok (.aload_n 0, 1) := by decide +kernel
theorem d_R_subtract_40 : decode c_R_subtract 40 = .ok (.sipush 255, 3) := by decide +kernel
theorem d_R_subtract_43 : decode c_R_subtract 43 = .ok (.iload_n 1, 1) := by decide +kernel
theorem d_R_subtract_44 : decode c_R_subtract 44 = .ok (.isub, 1) := by decide +kernel
theorem d_R_subtract_45 : decode c_R_subtract 45 = .ok (.iload_n 2, 1) := by decide +kernel
theorem d_R_subtract_46 : decode c_R_subtract 46 = .ok (.invokevirtual 72, 3) := by decide +kernel
theorem d_R_subtract_49 : decode c_R_subtract 49 = .ok (.aload_n 0, 1) := by decide +kernel
theorem d_R_subtract_50 : decode c_R_subtract 50 = .ok (.iload_n 3, 1) := by decide +kernel
theorem d_R_subtract_51 : decode c_R_subtract 51 = .ok (.putfield 22, 3) := by decide +kernel
theorem d_R_subtract_54 : decode c_R_subtract 54 = .ok (.return_, 1) := by decide +kernel
theorem d_R_decimalDifference_0 : decode c_R_decimalDifference 0 = .ok (.aload_n 0, 1) := by decide +kernel
theorem d_R_decimalDifference_1 : decode c_R_decimalDifference 1 = .ok (.getfield 22, 3) := by decide +kernel
theorem d_R_decimalDifference_4 : decode c_R_decimalDifference 4 = .ok (.bipush 15, 2) := by decide +kernel
theorem d_R_decimalDifference_6 : decode c_R_decimalDifference 6 = .ok (.iand, 1) := by decide +kernel
theorem d_R_decimalDifference_7 : decode c_R_decimalDifference 7 = .ok (.iload_n 1, 1) := by decide +kernel
theorem d_R_decimalDifference_8 : decode c_R_decimalDifference 8 = .ok (.bipush 15, 2) := by decide +kernel
theorem d_R_decimalDifference_10 : decode c_R_decimalDifference 10 = .ok (.iand, 1) := by decide +kernel
theorem d_R_decimalDifference_11 : decode c_R_decimalDifference 11 = .ok (.isub, 1) := by decide +kernel
theorem d_R_decimalDifference_12 : decode c_R_decimalDifference 12 = .ok (.iconst 1, 1) := by decide +kernel
theorem d_R_decimalDifference_13 : decode c_R_decimalDifference 13 = .ok (.aload_n 0, 1) := by decide +kernel
theorem d_R_decimalDifference_14 : decode c_R_decimalDifference 14 = .ok (.invokevirtual 68, 3) := by decide +kernel
theorem d_R_decimalDifference_17 : decode c_R_decimalDifference 17 = .ok (.isub, 1) := by decide +kernel
theorem d_R_decimalDifference_18 : decode c_R_decimalDifference 18 = .ok (.isub, 1) := by decide +kernel
theorem d_R_decimalDifference_19 : decode c_R_decimalDifference 19 = .ok (.istore_n 2, 1) := by decide +kernel
theorem d_R_decimalDifference_20 : decode c_R_decimalDifference 20 = .ok (.iload_n 2, 1) := by decide +kernel
theorem d_R_decimalDifference_21 : decode c_R_decimalDifference 21 = .ok (.ifCond .ge 6, 3) := by decide +kernel
theorem d_R_decimalDifference_24 : decode c_R_decimalDifference 24 = .ok (.iinc 2 (-6), 3) := by decide +kernel
theorem d_R_decimalDifference_27 : decode c_R_decimalDifference 27 = .ok (.aload_n 0, 1) := by decide +kernel
theorem d_R_decimalDifference_28 : decode c_R_decimalDifference 28 = .ok (.getfield 22, 3) := by decide +kernel
theorem d_R_decimalDifference_31 : decode c_R_decimalDifference 31 = .ok (.iconst 4, 1) := by decide +kernel
theorem d_R_decimalDifference_32 : decode c_R_decimalDifference 32 = .ok (.ishr, 1) := by decide +kernel
theorem d_R_decimalDifference_33 : decode c_R_decimalDifference 33 = .ok (.iload_n 1, 1) := by decide +kernel
theorem d_R_decimalDifference_34 : decode c_R_decimalDifference 34 = .ok (.iconst 4, 1) := by decide +kernel
theorem d_R_decimalDifference_35 : decode c_R_decimalDifference 35 = .ok (.ishr, 1) := by decide +kernel
theorem d_R_decimalDifference_36 : decode c_R_decimalDifference 36 = .ok (.isub, 1) := by decide +kernel
theorem d_R_decimalDifference_37 : decode c_R_decimalDifference 37 = .ok (.iload_n 2, 1) := by decide +kernel
theorem d_R_decimalDifference_38 : decode c_R_decimalDifference 38 = .ok (.ifCond .ge 7, 3) := by decide +kernel
theorem d_R_decimalDifference_41 : decode c_R_decimalDifference 41 = .ok (.iconst 1, 1) := by decide +kernel
theorem d_R_decimalDifference_42 : decode c_R_decimalDifference 42 = .ok (.goto 4, 3) := by decide +kernel
theorem d_R_decimalDifference_45 : decode c_R_decimalDifference 45 = .ok (.iconst 0, 1) := by decide +kernel
theorem d_R_decimalDifference_46 : decode c_R_decimalDifference 46 = .ok (.isub, 1) := by decide +kernel
theorem d_R_decimalDifference_47 : decode c_R_decimalDifference 47 = .ok (.istore_n 3, 1) := by decide +kernel
theorem d_R_decimalDifference_48 : decode c_R_decimalDifference 48 = .ok (.iload_n 3, 1) := by decide +kernel
theorem d_R_decimalDifference_49 : decode c_R_decimalDifference 49 = .ok (.ifCond .ge 6, 3) := by decide +kernel
theorem d_R_decimalDifference_52 : decode c_R_decimalDifference 52 = .ok (.iinc 3 (-6), 3) := by decide +kernel
theorem d_R_decimalDifference_55 : decode c_R_decimalDifference 55 = .ok (.bipush 16, 2) := by decide +kernel
theorem d_R_decimalDifference_57 : decode c_R_decimalDifference 57 = .ok (.iload_n 3, 1) := by decide +kernel
theorem d_R_decimalDifference_58 : decode c_R_decimalDifference 58 = .ok (.bipush 15, 2) := by decide +kernel
theorem d_R_decimalDifference_60 : decode c_R_decimalDifference 60 = .ok (.iand, 1) := by decide +kernel
theorem d_R_decimalDifference_61 : decode c_R_decimalDifference 61 = .ok (.imul, 1) := by decide +kernel
theorem d_R_decimalDifference_62 : decode c_R_decimalDifference 62 = .ok (.iload_n 2, 1) := by decide +kernel
theorem d_R_decimalDifference_63 : decode c_R_decimalDifference 63 = .ok (.bipush 15, 2) := by decide +kernel
theorem d_R_decimalDifference_65 : decode c_R_decimalDifference 65 = .ok (.iand, 1) := by decide +kernel
theorem d_R_decimalDifference_66 : decode c_R_decimalDifference 66 = .ok (.iadd, 1) := by decide +kernel
theorem d_R_decimalDifference_67 : decode c_R_decimalDifference 67 = .ok (.ireturn, 1) := by decide +kernel
theorem d_R_compare_0 : decode c_R_compare 0 = .ok (.aload_n 0, 1) := by decide +kernel
theorem d_R_compare_1 : decode c_R_compare 1 = .ok (.iconst 1, 1) := by decide +kernel
theorem d_R_compare_2 : decode c_R_compare 2 = .ok (.aload_n 0, 1) := by decide +kernel
theorem d_R_compare_3 : decode c_R_compare 3 = .ok (.getfield 22, 3) := by decide +kernel
theorem d_R_compare_6 : decode c_R_compare 6 = .ok (.iload_n 1, 1) := by decide +kernel
theorem d_R_compare_7 : decode c_R_compare 7 = .ok (.if_icmp .lt 7, 3) := by decide +kernel
theorem d_R_compare_10 : decode c_R_compare 10 = .ok (.iconst 1, 1) := by decide +kernel
theorem d_R_compare_11 : decode c_R_compare 11 = .ok (.goto 4, 3) := by decide +kernel
theorem d_R_compare_14 : decode c_R_compare 14 = .ok (.iconst 0, 1) := by decide +kernel
theorem d_R_compare_15 : decode c_R_compare 15 = .ok (.invokevirtual 57, 3) := by decide +kernel
theorem d_R_compare_18 : decode c_R_compare 18 = .ok (.aload_n 0, 1) := by decide +kernel
theorem d_R_compare_19 : decode c_R_compare 19 = .ok (.aload_n 0, 1) := by decide +kernel
theorem d_R_compare_20 : decode c_R_compare 20 = .ok (.getfield 22, 3) := by decide +kernel
theorem d_R_compare_23 : decode c_R_compare 23 = .ok (.iload_n 1, 1) := by decide +kernel
theorem d_R_compare_24 : decode c_R_compare 24 = .ok (.isub, 1) := by decide +kernel
theorem d_R_compare_25 : decode c_R_compare 25 = .ok (.sipush 255, 3) := by decide +kernel
theorem d_R_compare_28 : decode c_R_compare 28 = .ok (.iand, 1) := by decide +kernel
theorem d_R_compare_29 : decode c_R_compare 29 = .ok (.invokevirtual 25, 3) := by decide +kernel
theorem d_R_compare_32 : decode c_R_compare 32 = .ok (.return_, 1) := by decide +kernel
theorem d_R_loadX_0 : decode c_R_loadX 0 = .ok (.aload_n 0, 1) := by decide +kernel
theorem d_R_loadX_1 : decode c_R_loadX 1 = .ok (.iload_n 1, 1) := by decide +kernel
theorem d_R_loadX_2 : decode c_R_loadX 2 = .ok (.sipush 255, 3) := by decide +kernel
theorem d_R_loadX_5 : decode c_R_loadX 5 = .ok (.iand, 1) := by decide +kernel
theorem d_R_loadX_6 : decode c_R_loadX 6 = .ok (.putfield 29, 3) := by decide +kernel
theorem d_R_loadX_9 : decode c_R_loadX 9 = .ok (.aload_n 0, 1) := by decide +kernel
theorem d_R_loadX_10 : decode c_R_loadX 10 = .ok (.aload_n 0, 1) := by decide +kernel
theorem d_R_loadX_11 : decode c_R_loadX 11 = .ok (.getfield 29, 3) := by decide +kernel
theorem d_R_loadX_14 : decode c_R_loadX 14 = .ok (.invokevirtual 25, 3) := by decide +kernel
theorem d_R_loadX_17 : decode c_R_loadX 17 = .ok (.return_, 1) := by decide +kernel
theorem d_R_loadY_0 : decode c_R_loadY 0 = .ok (.aload_n 0, 1) := by decide +kernel
theorem d_R_loadY_1 : decode c_R_loadY 1 = .ok (.iload_n 1, 1) := by decide +kernel
theorem d_R_loadY_2 : decode c_R_loadY 2 = .ok (.sipush 255, 3) := by decide +kernel
theorem d_R_loadY_5 : decode c_R_loadY 5 = .ok (.iand, 1) := by decide +kernel
theorem d_R_loadY_6 : decode c_R_loadY 6 = .ok (.putfield 32, 3) := by decide +kernel
theorem d_R_loadY_9 : decode c_R_loadY 9 = .ok (.aload_n 0, 1) := by decide +kernel
theorem d_R_loadY_10 : decode c_R_loadY 10 = .ok (.aload_n 0, 1) := by decide +kernel
theorem d_R_loadY_11 : decode c_R_loadY 11 = .ok (.getfield 32, 3) := by decide +kernel
theorem d_R_loadY_14 : decode c_R_loadY 14 = .ok (.invokevirtual 25, 3) := by decide +kernel
theorem d_R_loadY_17 : decode c_R_loadY 17 = .ok (.return_, 1) := by decide +kernel
theorem d_R_takesBranch_0 : decode c_R_takesBranch 0 = .ok (.iload_n 1, 1) := by decide +kernel
theorem d_R_takesBranch_1 : decode c_R_takesBranch 1 = .ok (.iconst 1, 1) := by decide +kernel
theorem d_R_takesBranch_2 : decode c_R_takesBranch 2 = .ok (.iand, 1) := by decide +kernel
theorem d_R_takesBranch_3 : decode c_R_takesBranch 3 = .ok (.iconst 1, 1) := by decide +kernel
theorem d_R_takesBranch_4 : decode c_R_takesBranch 4 = .ok (.if_icmp .ne 7, 3) := by decide +kernel
theorem d_R_takesBranch_7 : decode c_R_takesBranch 7 = .ok (.iconst 1, 1) := by decide +kernel
theorem d_R_takesBranch_8 : decode c_R_takesBranch 8 = .ok (.goto 4, 3) := by decide +kernel
theorem d_R_takesBranch_11 : decode c_R_takesBranch 11 = .ok (.iconst 0, 1) := by decide +kernel
theorem d_R_takesBranch_12 : decode c_R_takesBranch 12 = .ok (.istore_n 2, 1) := by decide +kernel
theorem d_R_takesBranch_13 : decode c_R_takesBranch 13 = .ok (.iload_n 1, 1) := by decide +kernel
theorem d_R_takesBranch_14 : decode c_R_takesBranch 14 = .ok (.bipush 16, 2) := by decide +kernel
theorem d_R_takesBranch_16 : decode c_R_takesBranch 16 = .ok (.isub, 1) := by decide +kernel
theorem d_R_takesBranch_17 : decode c_R_takesBranch 17 = .ok (.iconst 1, 1) := by decide +kernel
theorem d_R_takesBranch_18 : decode c_R_takesBranch 18 = .ok (.ishr, 1) := by decide +kernel
theorem d_R_takesBranch_19 : decode c_R_takesBranch 19 = .ok (.tableswitch 79 0 2 #[25, 44, 62], 25) := by decide +kernel
theorem d_R_takesBranch_44 : decode c_R_takesBranch 44 = .ok (.aload_n 0, 1) := by decide +kernel
theorem d_R_takesBranch_45 : decode c_R_takesBranch 45 = .ok (.sipush 128, 3) := by decide +kernel
theorem d_R_takesBranch_48 : decode c_R_takesBranch 48 = .ok (.invokevirtual 35, 3) := by decide +kernel
theorem d_R_takesBranch_51 : decode c_R_takesBranch 51 = .ok (.iload_n 2, 1) := by decide +kernel
theorem d_R_takesBranch_52 : decode c_R_takesBranch 52 = .ok (.if_icmp .ne 7, 3) := by decide +kernel
theorem d_R_takesBranch_55 : decode c_R_takesBranch 55 = .ok (.iconst 1, 1) := by decide +kernel
theorem d_R_takesBranch_56 : decode c_R_takesBranch 56 = .ok (.goto 56, 3) := by decide +kernel
theorem d_R_takesBranch_59 : decode c_R_takesBranch 59 = .ok (.iconst 0, 1) := by decide +kernel
theorem d_R_takesBranch_60 : decode c_R_takesBranch 60 = .ok (.goto 52, 3) := by decide +kernel
theorem d_R_takesBranch_63 : decode c_R_takesBranch 63 = .ok (.aload_n 0, 1) := by decide +kernel
theorem d_R_takesBranch_64 : decode c_R_takesBranch 64 = .ok (.bipush 64, 2) := by decide +kernel
theorem d_R_takesBranch_66 : decode c_R_takesBranch 66 = .ok (.invokevirtual 35, 3) := by decide +kernel
theorem d_R_takesBranch_69 : decode c_R_takesBranch 69 = .ok (.iload_n 2, 1) := by decide +kernel
theorem d_R_takesBranch_70 : decode c_R_takesBranch 70 = .ok (.if_icmp .ne 7, 3) := by decide +kernel
theorem d_R_takesBranch_73 : decode c_R_takesBranch 73 = .ok (.iconst 1, 1) := by decide +kernel
theorem d_R_takesBranch_74 : decode c_R_takesBranch 74 = .ok (.goto 38, 3) := by decide +kernel
theorem d_R_takesBranch_77 : decode c_R_takesBranch 77 = .ok (.iconst 0, 1) := by decide +kernel
theorem d_R_takesBranch_78 : decode c_R_takesBranch 78 = .ok (.goto 34, 3) := by decide +kernel
theorem d_R_takesBranch_81 : decode c_R_takesBranch 81 = .ok (.aload_n 0, 1) := by decide +kernel
theorem d_R_takesBranch_82 : decode c_R_takesBranch 82 = .ok (.iconst 1, 1) := by decide +kernel
theorem d_R_takesBranch_83 : decode c_R_takesBranch 83 = .ok (.invokevirtual 35, 3) := by decide +kernel
theorem d_R_takesBranch_86 : decode c_R_takesBranch 86 = .ok (.iload_n 2, 1) := by decide +kernel
theorem d_R_takesBranch_87 : decode c_R_takesBranch 87 = .ok (.if_icmp .ne 7, 3) := by decide +kernel
theorem d_R_takesBranch_90 : decode c_R_takesBranch 90 = .ok (.iconst 1, 1) := by decide +kernel
theorem d_R_takesBranch_91 : decode c_R_takesBranch 91 = .ok (.goto 21, 3) := by decide +kernel
theorem d_R_takesBranch_94 : decode c_R_takesBranch 94 = .ok (.iconst 0, 1) := by decide +kernel
theorem d_R_takesBranch_95 : decode c_R_takesBranch 95 = .ok (.goto 17, 3) := by decide +kernel
theorem d_R_takesBranch_98 : decode c_R_takesBranch 98 = .ok (.aload_n 0, 1) := by decide +kernel
theorem d_R_takesBranch_99 : decode c_R_takesBranch 99 = .ok (.iconst 2, 1) := by decide +kernel
theorem d_R_takesBranch_100 : decode c_R_takesBranch 100 = .ok (.invokevirtual 35, 3) := by decide +kernel
theorem d_R_takesBranch_103 : decode c_R_takesBranch 103 = .ok (.iload_n 2, 1) := by decide +kernel
theorem d_R_takesBranch_104 : decode c_R_takesBranch 104 = .ok (.if_icmp .ne 7, 3) := by decide +kernel
theorem d_R_takesBranch_107 : decode c_R_takesBranch 107 = .ok (.iconst 1, 1) := by decide +kernel
theorem d_R_takesBranch_108 : decode c_R_takesBranch 108 = .ok (.goto 4, 3) := by decide +kernel
theorem d_R_takesBranch_111 : decode c_R_takesBranch 111 = .ok (.iconst 0, 1) := by decide +kernel
theorem d_R_takesBranch_112 : decode c_R_takesBranch 112 = .ok (.ireturn, 1) := by decide +kernel
theorem d_R_operateAlone_0 : decode c_R_operateAlone 0 = .ok (.iload_n 1, 1) := by decide +kernel
theorem d_R_operateAlone_1 : decode c_R_operateAlone 1 = .ok (.tableswitch 238 1 15 #[75, 88, 101, 114, 127, 138, 149, 160, 171, 180, 189, 198, 207, 217, 227], 75) := by decide +kernel
theorem d_R_operateAlone_76 : decode c_R_operateAlone 76 = .ok (.aload_n 0, 1) := by decide +kernel
theorem d_R_operateAlone_77 : decode c_R_operateAlone 77 = .ok (.aload_n 0, 1) := by decide +kernel
theorem d_R_operateAlone_78 : decode c_R_operateAlone 78 = .ok (.getfield 29, 3) := by decide +kernel
theorem d_R_operateAlone_81 : decode c_R_operateAlone 81 = .ok (.iconst 1, 1) := by decide +kernel
theorem d_R_operateAlone_82 : decode c_R_operateAlone 82 = .ok (.iadd, 1) := by decide +kernel
theorem d_R_operateAlone_83 : decode c_R_operateAlone 83 = .ok (.invokevirtual 51, 3) := by decide +kernel
theorem d_R_operateAlone_86 : decode c_R_operateAlone 86 = .ok (.goto 153, 3) := by decide +kernel
theorem d_R_operateAlone_89 : decode c_R_operateAlone 89 = .ok (.aload_n 0, 1) := by decide +kernel
theorem d_R_operateAlone_90 : decode c_R_operateAlone 90 = .ok (.aload_n 0, 1) := by decide +kernel
theorem d_R_operateAlone_91 : decode c_R_operateAlone 91 = .ok (.getfield 29, 3) := by decide +kernel
theorem d_R_operateAlone_94 : decode c_R_operateAlone 94 = .ok (.iconst 1, 1) := by decide +kernel
theorem d_R_operateAlone_95 : decode c_R_operateAlone 95 = .ok (.isub, 1) := by decide +kernel
theorem d_R_operateAlone_96 : decode c_R_operateAlone 96 = .ok (.invokevirtual 51, 3) := by decide +kernel
theorem d_R_operateAlone_99 : decode c_R_operateAlone 99 = .ok (.goto 140, 3) := by decide +kernel
theorem d_R_operateAlone_102 : decode c_R_operateAlone 102 = .ok (.aload_n 0, 1) := by decide +kernel
theorem d_R_operateAlone_103 : decode c_R_operateAlone 103 = .ok (.aload_n 0, 1) := by decide +kernel
theorem d_R_operateAlone_104 : decode c_R_operateAlone 104 = .ok (.getfield 32, 3) := by decide +kernel
theorem d_R_operateAlone_107 : decode c_R_operateAlone 107 = .ok (.iconst 1, 1) := by decide +kernel
theorem d_R_operateAlone_108 : decode c_R_operateAlone 108 = .ok (.iadd, 1) := by decide +kernel
theorem d_R_operateAlone_109 : decode c_R_operateAlone 109 = .ok (.invokevirtual 54, 3) := by decide +kernel
theorem d_R_operateAlone_112 : decode c_R_operateAlone 112 = .ok (.goto 127, 3) := by decide +kernel
theorem d_R_operateAlone_115 : decode c_R_operateAlone 115 = .ok (.aload_n 0, 1) := by decide +kernel
theorem d_R_operateAlone_116 : decode c_R_operateAlone 116 = .ok (.aload_n 0, 1) := by decide +kernel
theorem d_R_operateAlone_117 : decode c_R_operateAlone 117 = .ok (.getfield 32, 3) := by decide +kernel
theorem d_R_operateAlone_120 : decode c_R_operateAlone 120 = .ok (.iconst 1, 1) := by decide +kernel
theorem d_R_operateAlone_121 : decode c_R_operateAlone 121 = .ok (.isub, 1) := by decide +kernel
theorem d_R_operateAlone_122 : decode c_R_operateAlone 122 = .ok (.invokevirtual 54, 3) := by decide +kernel
theorem d_R_operateAlone_125 : decode c_R_operateAlone 125 = .ok (.goto 114, 3) := by decide +kernel
theorem d_R_operateAlone_128 : decode c_R_operateAlone 128 = .ok (.aload_n 0, 1) := by decide +kernel
theorem d_R_operateAlone_129 : decode c_R_operateAlone 129 = .ok (.aload_n 0, 1) := by decide +kernel
theorem d_R_operateAlone_130 : decode c_R_operateAlone 130 = .ok (.getfield 22, 3) := by decide +kernel
theorem d_R_operateAlone_133 : decode c_R_operateAlone 133 = .ok (.invokevirtual 51, 3) := by decide +kernel
theorem d_R_operateAlone_136 : decode c_R_operateAlone 136 = .ok (.goto 103, 3) := by decide +kernel
theorem d_R_operateAlone_139 : decode c_R_operateAlone 139 = .ok (.aload_n 0, 1) := by decide +kernel
theorem d_R_operateAlone_140 : decode c_R_operateAlone 140 = .ok (.aload_n 0, 1) := by decide +kernel
theorem d_R_operateAlone_141 : decode c_R_operateAlone 141 = .ok (.getfield 29, 3) := by decide +kernel
theorem d_R_operateAlone_144 : decode c_R_operateAlone 144 = .ok (.invokevirtual 39, 3) := by decide +kernel
theorem d_R_operateAlone_147 : decode c_R_operateAlone 147 = .ok (.goto 92, 3) := by decide +kernel
theorem d_R_operateAlone_150 : decode c_R_operateAlone 150 = .ok (.aload_n 0, 1) := by decide +kernel
theorem d_R_operateAlone_151 : decode c_R_operateAlone 151 = .ok (.aload_n 0, 1) := by decide +kernel
theorem d_R_operateAlone_152 : decode c_R_operateAlone 152 = .ok (.getfield 22, 3) := by decide +kernel
theorem d_R_operateAlone_155 : decode c_R_operateAlone 155 = .ok (.invokevirtual 54, 3) := by decide +kernel
theorem d_R_operateAlone_158 : decode c_R_operateAlone 158 = .ok (.goto 81, 3) := by decide +kernel
theorem d_R_operateAlone_161 : decode c_R_operateAlone 161 = .ok (.aload_n 0, 1) := by decide +kernel
theorem d_R_operateAlone_162 : decode c_R_operateAlone 162 = .ok (.aload_n 0, 1) := by decide +kernel
theorem d_R_operateAlone_163 : decode c_R_operateAlone 163 = .ok (.getfield 32, 3) := by decide +kernel
theorem d_R_operateAlone_166 : decode c_R_operateAlone 166 = .ok (.invokevirtual 39, 3) := by decide +kernel
theorem d_R_operateAlone_169 : decode c_R_operateAlone 169 = .ok (.goto 70, 3) := by decide +kernel
theorem d_R_operateAlone_172 : decode c_R_operateAlone 172 = .ok (.aload_n 0, 1) := by decide +kernel
theorem d_R_operateAlone_173 : decode c_R_operateAlone 173 = .ok (.iconst 1, 1) := by decide +kernel
theorem d_R_operateAlone_174 : decode c_R_operateAlone 174 = .ok (.iconst 0, 1) := by decide +kernel
theorem d_R_operateAlone_175 : decode c_R_operateAlone 175 = .ok (.invokevirtual 57, 3) := by decide +kernel
theorem d_R_operateAlone_178 : decode c_R_operateAlone 178 = .ok (.goto 61, 3) := by decide +kernel
theorem d_R_operateAlone_181 : decode c_R_operateAlone 181 = .ok (.aload_n 0, 1) := by decide +kernel
theorem d_R_operateAlone_182 : decode c_R_operateAlone 182 = .ok (.iconst 1, 1) := by decide +kernel
theorem d_R_operateAlone_183 : decode c_R_operateAlone 183 = .ok (.iconst 1, 1) := by decide +kernel
theorem d_R_operateAlone_184 : decode c_R_operateAlone 184 = .ok (.invokevirtual 57, 3) := by decide +kernel
theorem d_R_operateAlone_187 : decode c_R_operateAlone 187 = .ok (.goto 52, 3) := by decide +kernel
theorem d_R_operateAlone_190 : decode c_R_operateAlone 190 = .ok (.aload_n 0, 1) := by decide +kernel
theorem d_R_operateAlone_191 : decode c_R_operateAlone 191 = .ok (.iconst 4, 1) := by decide +kernel
theorem d_R_operateAlone_192 : decode c_R_operateAlone 192 = .ok (.iconst 0, 1) := by decide +kernel
theorem d_R_operateAlone_193 : decode c_R_operateAlone 193 = .ok (.invokevirtual 57, 3) := by decide +kernel
theorem d_R_operateAlone_196 : decode c_R_operateAlone 196 = .ok (.goto 43, 3) := by decide +kernel
theorem d_R_operateAlone_199 : decode c_R_operateAlone 199 = .ok (.aload_n 0, 1) := by decide +kernel
theorem d_R_operateAlone_200 : decode c_R_operateAlone 200 = .ok (.iconst 4, 1) := by decide +kernel
theorem d_R_operateAlone_201 : decode c_R_operateAlone 201 = .ok (.iconst 1, 1) := by decide +kernel
theorem d_R_operateAlone_202 : decode c_R_operateAlone 202 = .ok (.invokevirtual 57, 3) := by decide +kernel
theorem d_R_operateAlone_205 : decode c_R_operateAlone 205 = .ok (.goto 34, 3) := by decide +kernel
theorem d_R_operateAlone_208 : decode c_R_operateAlone 208 = .ok (.aload_n 0, 1) := by decide +kernel
theorem d_R_operateAlone_209 : decode c_R_operateAlone 209 = .ok (.bipush 8, 2) := by decide +kernel
theorem d_R_operateAlone_211 : decode c_R_operateAlone 211 = .ok (.iconst 0, 1) := by decide +kernel
theorem d_R_operateAlone_212 : decode c_R_operateAlone 212 = .ok (.invokevirtual 57, 3) := by decide +kernel
theorem d_R_operateAlone_215 : decode c_R_operateAlone 215 = .ok (.goto 24, 3) := by decide +kernel
theorem d_R_operateAlone_218 : decode c_R_operateAlone 218 = .ok (.aload_n 0, 1) := by decide +kernel
theorem d_R_operateAlone_219 : decode c_R_operateAlone 219 = .ok (.bipush 8, 2) := by decide +kernel
theorem d_R_operateAlone_221 : decode c_R_operateAlone 221 = .ok (.iconst 1, 1) := by decide +kernel
theorem d_R_operateAlone_222 : decode c_R_operateAlone 222 = .ok (.invokevirtual 57, 3) := by decide +kernel
theorem d_R_operateAlone_225 : decode c_R_operateAlone 225 = .ok (.goto 14, 3) := by decide +kernel
theorem d_R_operateAlone_228 : decode c_R_operateAlone 228 = .ok (.aload_n 0, 1) := by decide +kernel
theorem d_R_operateAlone_229 : decode c_R_operateAlone 229 = .ok (.aload_n 0, 1) := by decide +kernel
theorem d_R_operateAlone_230 : decode c_R_operateAlone 230 = .ok (.getfield 29, 3) := by decide +kernel
theorem d_R_operateAlone_233 : decode c_R_operateAlone 233 = .ok (.putfield 19, 3) := by decide +kernel
theorem d_R_operateAlone_236 : decode c_R_operateAlone 236 = .ok (.goto 3, 3) := by decide +kernel
theorem d_R_operateAlone_239 : decode c_R_operateAlone 239 = .ok (.return_, 1) := by decide +kernel
theorem d_R_takeFlags_0 : decode c_R_takeFlags 0 = .ok (.aload_n 0, 1) := by decide +kernel
theorem d_R_takeFlags_1 : decode c_R_takeFlags 1 = .ok (.iload_n 1, 1) := by decide +kernel
theorem d_R_takeFlags_2 : decode c_R_takeFlags 2 = .ok (.sipush 207, 3) := by decide +kernel
theorem d_R_takeFlags_5 : decode c_R_takeFlags 5 = .ok (.iand, 1) := by decide +kernel
theorem d_R_takeFlags_6 : decode c_R_takeFlags 6 = .ok (.putfield 9, 3) := by decide +kernel
theorem d_R_takeFlags_9 : decode c_R_takeFlags 9 = .ok (.return_, 1) := by decide +kernel
