/-! decode rows (printed by my own program) -/
theorem d_C_accessIndexed_65 : decode c_C_accessIndexed 65 = .ok (.getstatic 360, 3) := by decide +kernel
theorem d_C_accessIndexed_68 : decode c_C_accessIndexed 68 = .ok (.putfield 30, 3) := by decide +kernel
theorem d_C_accessIndexed_71 : decode c_C_accessIndexed 71 = .ok (.return_, 1) := by decide +kernel
theorem d_C_afterFarLow_0 : decode c_C_afterFarLow 0 = .ok (.aload_n 0, 1) := by decide +kernel
theorem d_C_afterFarLow_1 : decode c_C_afterFarLow 1 = .ok (.getfield 20, 3) := by decide +kernel
theorem d_C_afterFarLow_4 : decode c_C_afterFarLow 4 = .ok (.invokevirtual 185, 3) := by decide +kernel
theorem d_C_afterFarLow_7 : decode c_C_afterFarLow 7 = .ok (.aload_n 0, 1) := by decide +kernel
theorem d_C_afterFarLow_8 : decode c_C_afterFarLow 8 = .ok (.iload_n 1, 1) := by decide +kernel
theorem d_C_afterFarLow_9 : decode c_C_afterFarLow 9 = .ok (.putfield 141, 3) := by decide +kernel
theorem d_C_afterFarLow_12 : decode c_C_afterFarLow 12 = .ok (.aload_n 0, 1) := by decide +kernel
theorem d_C_afterFarLow_13 : decode c_C_afterFarLow 13 = .ok (.aload_n 0, 1) := by decide +kernel
theorem d_C_afterFarLow_14 : decode c_C_afterFarLow 14 = .ok (.getfield 39, 3) := by decide +kernel
theorem d_C_afterFarLow_17 : decode c_C_afterFarLow 17 = .ok (.getstatic 170, 3) := by decide +kernel
theorem d_C_afterFarLow_20 : decode c_C_afterFarLow 20 = .ok (.if_acmp .ne 9, 3) := by decide +kernel
theorem d_C_afterFarLow_23 : decode c_C_afterFarLow 23 = .ok (.getstatic 357, 3) := by decide +kernel
theorem d_C_afterFarLow_26 : decode c_C_afterFarLow 26 = .ok (.goto 6, 3) := by decide +kernel
theorem d_C_afterFarLow_29 : decode c_C_afterFarLow 29 = .ok (.getstatic 173, 3) := by decide +kernel
theorem d_C_afterFarLow_32 : decode c_C_afterFarLow 32 = .ok (.putfield 30, 3) := by decide +kernel
theorem d_C_afterFarLow_35 : decode c_C_afterFarLow 35 = .ok (.return_, 1) := by decide +kernel
theorem d_C_afterFarPage_0 : decode c_C_afterFarPage 0 = .ok (.aload_n 0, 1) := by decide +kernel
theorem d_C_afterFarPage_1 : decode c_C_afterFarPage 1 = .ok (.getfield 39, 3) := by decide +kernel
theorem d_C_afterFarPage_4 : decode c_C_afterFarPage 4 = .ok (.getstatic 302, 3) := by decide +kernel
theorem d_C_afterFarPage_7 : decode c_C_afterFarPage 7 = .ok (.if_acmp .eq 13, 3) := by decide +kernel
theorem d_C_afterFarPage_10 : decode c_C_afterFarPage 10 = .ok (.aload_n 0, 1) := by decide +kernel
theorem d_C_afterFarPage_11 : decode c_C_afterFarPage 11 = .ok (.getfield 39, 3) := by decide +kernel
theorem d_C_afterFarPage_14 : decode c_C_afterFarPage 14 = .ok (.getstatic 170, 3) := by decide +kernel
theorem d_C_afterFarPage_17 : decode c_C_afterFarPage 17 = .ok (.if_acmp .ne 18, 3) := by decide +kernel
theorem d_C_afterFarPage_20 : decode c_C_afterFarPage 20 = .ok (.aload_n 0, 1) := by decide +kernel
theorem d_C_afterFarPage_21 : decode c_C_afterFarPage 21 = .ok (.aload_n 0, 1) := by decide +kernel
theorem d_C_afterFarPage_22 : decode c_C_afterFarPage 22 = .ok (.getfield 141, 3) := by decide +kernel
theorem d_C_afterFarPage_25 : decode c_C_afterFarPage 25 = .ok (.sipush 256, 3) := by decide +kernel
theorem d_C_afterFarPage_28 : decode c_C_afterFarPage 28 = .ok (.iload_n 1, 1) := by decide +kernel
theorem d_C_afterFarPage_29 : decode c_C_afterFarPage 29 = .ok (.imul, 1) := by decide +kernel
theorem d_C_afterFarPage_30 : decode c_C_afterFarPage 30 = .ok (.iadd, 1) := by decide +kernel
theorem d_C_afterFarPage_31 : decode c_C_afterFarPage 31 = .ok (.invokevirtual 224, 3) := by decide +kernel
theorem d_C_afterFarPage_34 : decode c_C_afterFarPage 34 = .ok (.return_, 1) := by decide +kernel
theorem d_C_afterFarPage_35 : decode c_C_afterFarPage 35 = .ok (.aload_n 0, 1) := by decide +kernel
theorem d_C_afterFarPage_36 : decode c_C_afterFarPage 36 = .ok (.getfield 20, 3) := by decide +kernel
theorem d_C_afterFarPage_39 : decode c_C_afterFarPage 39 = .ok (.invokevirtual 185, 3) := by decide +kernel
theorem d_C_afterFarPage_42 : decode c_C_afterFarPage 42 = .ok (.aload_n 0, 1) := by decide +kernel
theorem d_C_afterFarPage_43 : decode c_C_afterFarPage 43 = .ok (.getfield 274, 3) := by decide +kernel
theorem d_C_afterFarPage_46 : decode c_C_afterFarPage 46 = .ok (.iconst 3, 1) := by decide +kernel
theorem d_C_afterFarPage_47 : decode c_C_afterFarPage 47 = .ok (.if_icmp .ne 20, 3) := by decide +kernel
theorem d_C_afterFarPage_50 : decode c_C_afterFarPage 50 = .ok (.aload_n 0, 1) := by decide +kernel
theorem d_C_afterFarPage_51 : decode c_C_afterFarPage 51 = .ok (.aload_n 0, 1) := by decide +kernel
theorem d_C_afterFarPage_52 : decode c_C_afterFarPage 52 = .ok (.getfield 141, 3) := by decide +kernel
theorem d_C_afterFarPage_55 : decode c_C_afterFarPage 55 = .ok (.sipush 256, 3) := by decide +kernel
theorem d_C_afterFarPage_58 : decode c_C_afterFarPage 58 = .ok (.iload_n 1, 1) := by decide +kernel
theorem d_C_afterFarPage_59 : decode c_C_afterFarPage 59 = .ok (.imul, 1) := by decide +kernel
theorem d_C_afterFarPage_60 : decode c_C_afterFarPage 60 = .ok (.iadd, 1) := by decide +kernel
theorem d_C_afterFarPage_61 : decode c_C_afterFarPage 61 = .ok (.invokevirtual 212, 3) := by decide +kernel
theorem d_C_afterFarPage_64 : decode c_C_afterFarPage 64 = .ok (.goto 15, 3) := by decide +kernel
theorem d_C_afterFarPage_67 : decode c_C_afterFarPage 67 = .ok (.aload_n 0, 1) := by decide +kernel
theorem d_C_afterFarPage_68 : decode c_C_afterFarPage 68 = .ok (.iload_n 1, 1) := by decide +kernel
theorem d_C_afterFarPage_69 : decode c_C_afterFarPage 69 = .ok (.aload_n 0, 1) := by decide +kernel
theorem d_C_afterFarPage_70 : decode c_C_afterFarPage 70 = .ok (.getfield 20, 3) := by decide +kernel
theorem d_C_afterFarPage_73 : decode c_C_afterFarPage 73 = .ok (.getfield 77, 3) := by decide +kernel
theorem d_C_afterFarPage_76 : decode c_C_afterFarPage 76 = .ok (.invokevirtual 354, 3) := by decide +kernel
theorem d_C_afterFarPage_79 : decode c_C_afterFarPage 79 = .ok (.return_, 1) := by decide +kernel
theorem d_C_goTo_0 : decode c_C_goTo 0 = .ok (.aload_n 0, 1) := by decide +kernel
theorem d_C_goTo_1 : decode c_C_goTo 1 = .ok (.getfield 20, 3) := by decide +kernel
theorem d_C_goTo_4 : decode c_C_goTo 4 = .ok (.iload_n 1, 1) := by decide +kernel
theorem d_C_goTo_5 : decode c_C_goTo 5 = .ok (.ldc 101, 2) := by decide +kernel
theorem d_C_goTo_7 : decode c_C_goTo 7 = .ok (.iand, 1) := by decide +kernel
theorem d_C_goTo_8 : decode c_C_goTo 8 = .ok (.putfield 86, 3) := by decide +kernel
theorem d_C_goTo_11 : decode c_C_goTo 11 = .ok (.aload_n 0, 1) := by decide +kernel
theorem d_C_goTo_12 : decode c_C_goTo 12 = .ok (.invokevirtual 161, 3) := by decide +kernel
theorem d_C_goTo_15 : decode c_C_goTo 15 = .ok (.return_, 1) := by decide +kernel
theorem d_C_afterChangeRead_0 : decode c_C_afterChangeRead 0 = .ok (.aload_n 0, 1) := by decide +kernel
theorem d_C_afterChangeRead_1 : decode c_C_afterChangeRead 1 = .ok (.iload_n 1, 1) := by decide +kernel
theorem d_C_afterChangeRead_2 : decode c_C_afterChangeRead 2 = .ok (.putfield 141, 3) := by decide +kernel
theorem d_C_afterChangeRead_5 : decode c_C_afterChangeRead 5 = .ok (.aload_n 0, 1) := by decide +kernel
theorem d_C_afterChangeRead_6 : decode c_C_afterChangeRead 6 = .ok (.getstatic 371, 3) := by decide +kernel
theorem d_C_afterChangeRead_9 : decode c_C_afterChangeRead 9 = .ok (.putfield 30, 3) := by decide +kernel
theorem d_C_afterChangeRead_12 : decode c_C_afterChangeRead 12 = .ok (.return_, 1) := by decide +kernel
theorem d_C_afterBranchDistance_0 : decode c_C_afterBranchDistance 0 = .ok (.aload_n 0, 1) := by decide +kernel
theorem d_C_afterBranchDistance_1 : decode c_C_afterBranchDistance 1 = .ok (.getfield 20, 3) := by decide +kernel
theorem d_C_afterBranchDistance_4 : decode c_C_afterBranchDistance 4 = .ok (.invokevirtual 185, 3) := by decide +kernel
theorem d_C_afterBranchDistance_7 : decode c_C_afterBranchDistance 7 = .ok (.aload_n 0, 1) := by decide +kernel
theorem d_C_afterBranchDistance_8 : decode c_C_afterBranchDistance 8 = .ok (.getfield 20, 3) := by decide +kernel
theorem d_C_afterBranchDistance_11 : decode c_C_afterBranchDistance 11 = .ok (.aload_n 0, 1) := by decide +kernel
theorem d_C_afterBranchDistance_12 : decode c_C_afterBranchDistance 12 = .ok (.getfield 144, 3) := by decide +kernel
theorem d_C_afterBranchDistance_15 : decode c_C_afterBranchDistance 15 = .ok (.invokevirtual 374, 3) := by decide +kernel
theorem d_C_afterBranchDistance_18 : decode c_C_afterBranchDistance 18 = .ok (.ifCond .eq 46, 3) := by decide +kernel
theorem d_C_afterBranchDistance_21 : decode c_C_afterBranchDistance 21 = .ok (.iload_n 1, 1) := by decide +kernel
theorem d_C_afterBranchDistance_22 : decode c_C_afterBranchDistance 22 = .ok (.sipush 128, 3) := by decide +kernel
theorem d_C_afterBranchDistance_25 : decode c_C_afterBranchDistance 25 = .ok (.if_icmp .ge 7, 3) := by decide +kernel
theorem d_C_afterBranchDistance_28 : decode c_C_afterBranchDistance 28 = .ok (.iload_n 1, 1) := by decide +kernel
theorem d_C_afterBranchDistance_29 : decode c_C_afterBranchDistance 29 = .ok (.goto 8, 3) := by decide +kernel
theorem d_C_afterBranchDistance_32 : decode c_C_afterBranchDistance 32 = .ok (.iload_n 1, 1) := by decide +kernel
theorem d_C_afterBranchDistance_33 : decode c_C_afterBranchDistance 33 = .ok (.sipush 256, 3) := by decide +kernel
theorem d_C_afterBranchDistance_36 : decode c_C_afterBranchDistance 36 = .ok (.isub, 1) := by decide +kernel
theorem d_C_afterBranchDistance_37 : decode c_C_afterBranchDistance 37 = .ok (.istore_n 2, 1) := by decide +kernel
theorem d_C_afterBranchDistance_38 : decode c_C_afterBranchDistance 38 = .ok (.aload_n 0, 1) := by decide +kernel
theorem d_C_afterBranchDistance_39 : decode c_C_afterBranchDistance 39 = .ok (.aload_n 0, 1) := by decide +kernel
theorem d_C_afterBranchDistance_40 : decode c_C_afterBranchDistance 40 = .ok (.getfield 20, 3) := by decide +kernel
theorem d_C_afterBranchDistance_43 : decode c_C_afterBranchDistance 43 = .ok (.getfield 86, 3) := by decide +kernel
theorem d_C_afterBranchDistance_46 : decode c_C_afterBranchDistance 46 = .ok (.iload_n 2, 1) := by decide +kernel
theorem d_C_afterBranchDistance_47 : decode c_C_afterBranchDistance 47 = .ok (.iadd, 1) := by decide +kernel
theorem d_C_afterBranchDistance_48 : decode c_C_afterBranchDistance 48 = .ok (.ldc 101, 2) := by decide +kernel
theorem d_C_afterBranchDistance_50 : decode c_C_afterBranchDistance 50 = .ok (.iand, 1) := by decide +kernel
theorem d_C_afterBranchDistance_51 : decode c_C_afterBranchDistance 51 = .ok (.putfield 209, 3) := by decide +kernel
theorem d_C_afterBranchDistance_54 : decode c_C_afterBranchDistance 54 = .ok (.aload_n 0, 1) := by decide +kernel
theorem d_C_afterBranchDistance_55 : decode c_C_afterBranchDistance 55 = .ok (.getstatic 377, 3) := by decide +kernel
theorem d_C_afterBranchDistance_58 : decode c_C_afterBranchDistance 58 = .ok (.putfield 30, 3) := by decide +kernel
theorem d_C_afterBranchDistance_61 : decode c_C_afterBranchDistance 61 = .ok (.goto 7, 3) := by decide +kernel
theorem d_C_afterBranchDistance_64 : decode c_C_afterBranchDistance 64 = .ok (.aload_n 0, 1) := by decide +kernel
theorem d_C_afterBranchDistance_65 : decode c_C_afterBranchDistance 65 = .ok (.invokevirtual 161, 3) := by decide +kernel
theorem d_C_afterBranchDistance_68 : decode c_C_afterBranchDistance 68 = .ok (.return_, 1) := by decide +kernel
theorem d_C_afterBranchIdle_0 : decode c_C_afterBranchIdle 0 = .ok (.aload_n 0, 1) := by decide +kernel
theorem d_C_afterBranchIdle_1 : decode c_C_afterBranchIdle 1 = .ok (.getfield 20, 3) := by decide +kernel
theorem d_C_afterBranchIdle_4 : decode c_C_afterBranchIdle 4 = .ok (.getfield 86, 3) := by decide +kernel
theorem d_C_afterBranchIdle_7 : decode c_C_afterBranchIdle 7 = .ok (.ldc_w 380, 3) := by decide +kernel
theorem d_C_afterBranchIdle_10 : decode c_C_afterBranchIdle 10 = .ok (.iand, 1) := by decide +kernel
theorem d_C_afterBranchIdle_11 : decode c_C_afterBranchIdle 11 = .ok (.aload_n 0, 1) := by decide +kernel
theorem d_C_afterBranchIdle_12 : decode c_C_afterBranchIdle 12 = .ok (.getfield 209, 3) := by decide +kernel
theorem d_C_afterBranchIdle_15 : decode c_C_afterBranchIdle 15 = .ok (.sipush 255, 3) := by decide +kernel
theorem d_C_afterBranchIdle_18 : decode c_C_afterBranchIdle 18 = .ok (.iand, 1) := by decide +kernel
theorem d_C_afterBranchIdle_19 : decode c_C_afterBranchIdle 19 = .ok (.iadd, 1) := by decide +kernel
theorem d_C_afterBranchIdle_20 : decode c_C_afterBranchIdle 20 = .ok (.istore_n 1, 1) := by decide +kernel
theorem d_C_afterBranchIdle_21 : decode c_C_afterBranchIdle 21 = .ok (.iload_n 1, 1) := by decide +kernel
theorem d_C_afterBranchIdle_22 : decode c_C_afterBranchIdle 22 = .ok (.aload_n 0, 1) := by decide +kernel
theorem d_C_afterBranchIdle_23 : decode c_C_afterBranchIdle 23 = .ok (.getfield 209, 3) := by decide +kernel
theorem d_C_afterBranchIdle_26 : decode c_C_afterBranchIdle 26 = .ok (.if_icmp .ne 14, 3) := by decide +kernel
theorem d_C_afterBranchIdle_29 : decode c_C_afterBranchIdle 29 = .ok (.aload_n 0, 1) := by decide +kernel
theorem d_C_afterBranchIdle_30 : decode c_C_afterBranchIdle 30 = .ok (.aload_n 0, 1) := by decide +kernel
theorem d_C_afterBranchIdle_31 : decode c_C_afterBranchIdle 31 = .ok (.getfield 209, 3) := by decide +kernel
theorem d_C_afterBranchIdle_34 : decode c_C_afterBranchIdle 34 = .ok (.invokevirtual 224, 3) := by decide +kernel
theorem d_C_afterBranchIdle_37 : decode c_C_afterBranchIdle 37 = .ok (.goto 15, 3) := by decide +kernel
theorem d_C_afterBranchIdle_40 : decode c_C_afterBranchIdle 40 = .ok (.aload_n 0, 1) := by decide +kernel
theorem d_C_afterBranchIdle_41 : decode c_C_afterBranchIdle 41 = .ok (.iload_n 1, 1) := by decide +kernel
theorem d_C_afterBranchIdle_42 : decode c_C_afterBranchIdle 42 = .ok (.putfield 127, 3) := by decide +kernel
theorem d_C_afterBranchIdle_45 : decode c_C_afterBranchIdle 45 = .ok (.aload_n 0, 1) := by decide +kernel
theorem d_C_afterBranchIdle_46 : decode c_C_afterBranchIdle 46 = .ok (.getstatic 381, 3) := by decide +kernel
theorem d_C_afterBranchIdle_49 : decode c_C_afterBranchIdle 49 = .ok (.putfield 30, 3) := by decide +kernel
theorem d_C_afterBranchIdle_52 : decode c_C_afterBranchIdle 52 = .ok (.return_, 1) := by decide +kernel
theorem d_C_afterBreakNext_0 : decode c_C_afterBreakNext 0 = .ok (.aload_n 0, 1) := by decide +kernel
theorem d_C_afterBreakNext_1 : decode c_C_afterBreakNext 1 = .ok (.getfield 20, 3) := by decide +kernel
theorem d_C_afterBreakNext_4 : decode c_C_afterBreakNext 4 = .ok (.invokevirtual 185, 3) := by decide +kernel
theorem d_C_afterBreakNext_7 : decode c_C_afterBreakNext 7 = .ok (.aload_n 0, 1) := by decide +kernel
theorem d_C_afterBreakNext_8 : decode c_C_afterBreakNext 8 = .ok (.getstatic 252, 3) := by decide +kernel
theorem d_C_afterBreakNext_11 : decode c_C_afterBreakNext 11 = .ok (.putfield 30, 3) := by decide +kernel
theorem d_C_afterBreakNext_14 : decode c_C_afterBreakNext 14 = .ok (.return_, 1) := by decide +kernel
theorem d_C_afterPcIdle_0 : decode c_C_afterPcIdle 0 = .ok (.aload_n 0, 1) := by decide +kernel
theorem d_C_afterPcIdle_1 : decode c_C_afterPcIdle 1 = .ok (.getfield 39, 3) := by decide +kernel
theorem d_C_afterPcIdle_4 : decode c_C_afterPcIdle 4 = .ok (.getstatic 305, 3) := by decide +kernel
theorem d_C_afterPcIdle_7 : decode c_C_afterPcIdle 7 = .ok (.if_acmp .ne 21, 3) := by decide +kernel
theorem d_C_afterPcIdle_10 : decode c_C_afterPcIdle 10 = .ok (.aload_n 0, 1) := by decide +kernel
theorem d_C_afterPcIdle_11 : decode c_C_afterPcIdle 11 = .ok (.getfield 20, 3) := by decide +kernel
theorem d_C_afterPcIdle_14 : decode c_C_afterPcIdle 14 = .ok (.aload_n 0, 1) := by decide +kernel
theorem d_C_afterPcIdle_15 : decode c_C_afterPcIdle 15 = .ok (.getfield 144, 3) := by decide +kernel
theorem d_C_afterPcIdle_18 : decode c_C_afterPcIdle 18 = .ok (.invokevirtual 384, 3) := by decide +kernel
theorem d_C_afterPcIdle_21 : decode c_C_afterPcIdle 21 = .ok (.aload_n 0, 1) := by decide +kernel
theorem d_C_afterPcIdle_22 : decode c_C_afterPcIdle 22 = .ok (.invokevirtual 161, 3) := by decide +kernel
theorem d_C_afterPcIdle_25 : decode c_C_afterPcIdle 25 = .ok (.goto 26, 3) := by decide +kernel
theorem d_C_afterPcIdle_28 : decode c_C_afterPcIdle 28 = .ok (.aload_n 0, 1) := by decide +kernel
theorem d_C_afterPcIdle_29 : decode c_C_afterPcIdle 29 = .ok (.aload_n 0, 1) := by decide +kernel
theorem d_C_afterPcIdle_30 : decode c_C_afterPcIdle 30 = .ok (.getfield 39, 3) := by decide +kernel
theorem d_C_afterPcIdle_33 : decode c_C_afterPcIdle 33 = .ok (.getstatic 308, 3) := by decide +kernel
theorem d_C_afterPcIdle_36 : decode c_C_afterPcIdle 36 = .ok (.if_acmp .ne 9, 3) := by decide +kernel
theorem d_C_afterPcIdle_39 : decode c_C_afterPcIdle 39 = .ok (.getstatic 387, 3) := by decide +kernel
theorem d_C_afterPcIdle_42 : decode c_C_afterPcIdle 42 = .ok (.goto 6, 3) := by decide +kernel
theorem d_C_afterPcIdle_45 : decode c_C_afterPcIdle 45 = .ok (.getstatic 357, 3) := by decide +kernel
theorem d_C_afterPcIdle_48 : decode c_C_afterPcIdle 48 = .ok (.putfield 30, 3) := by decide +kernel
theorem d_C_afterPcIdle_51 : decode c_C_afterPcIdle 51 = .ok (.return_, 1) := by decide +kernel
theorem d_C_afterStackOrVectorRead_0 : decode c_C_afterStackOrVectorRead 0 = .ok (.getstatic 133, 3) := by decide +kernel
theorem d_C_afterStackOrVectorRead_3 : decode c_C_afterStackOrVectorRead 3 = .ok (.aload_n 0, 1) := by decide +kernel
theorem d_C_afterStackOrVectorRead_4 : decode c_C_afterStackOrVectorRead 4 = .ok (.getfield 30, 3) := by decide +kernel
theorem d_C_afterStackOrVectorRead_7 : decode c_C_afterStackOrVectorRead 7 = .ok (.invokevirtual 138, 3) := by decide +kernel
theorem d_C_afterStackOrVectorRead_10 : decode c_C_afterStackOrVectorRead 10 = .ok (.iaload, 1) := by decide +kernel
theorem d_C_afterStackOrVectorRead_11 : decode c_C_afterStackOrVectorRead 11 = .ok (.tableswitch 184 25 34 #[53, 64, 72, 80, 88, 104, 128, 136, 153, 177], 53) := by decide +kernel
theorem d_C_afterStackOrVectorRead_64 : decode c_C_afterStackOrVectorRead 64 = .ok (.aload_n 0, 1) := by decide +kernel
theorem d_C_afterStackOrVectorRead_65 : decode c_C_afterStackOrVectorRead 65 = .ok (.aload_n 0, 1) := by decide +kernel
theorem d_C_afterStackOrVectorRead_66 : decode c_C_afterStackOrVectorRead 66 = .ok (.invokevirtual 236, 3) := by decide +kernel
theorem d_C_afterStackOrVectorRead_69 : decode c_C_afterStackOrVectorRead 69 = .ok (.putfield 30, 3) := by decide +kernel
theorem d_C_afterStackOrVectorRead_72 : decode c_C_afterStackOrVectorRead 72 = .ok (.goto 128, 3) := by decide +kernel
theorem d_C_afterStackOrVectorRead_75 : decode c_C_afterStackOrVectorRead 75 = .ok (.aload_n 0, 1) := by decide +kernel
theorem d_C_afterStackOrVectorRead_76 : decode c_C_afterStackOrVectorRead 76 = .ok (.iload_n 1, 1) := by decide +kernel
theorem d_C_afterStackOrVectorRead_77 : decode c_C_afterStackOrVectorRead 77 = .ok (.invokevirtual 240, 3) := by decide +kernel
theorem d_C_afterStackOrVectorRead_80 : decode c_C_afterStackOrVectorRead 80 = .ok (.goto 120, 3) := by decide +kernel
theorem d_C_afterStackOrVectorRead_83 : decode c_C_afterStackOrVectorRead 83 = .ok (.aload_n 0, 1) := by decide +kernel
theorem d_C_afterStackOrVectorRead_84 : decode c_C_afterStackOrVectorRead 84 = .ok (.iload_n 1, 1) := by decide +kernel
theorem d_C_afterStackOrVectorRead_85 : decode c_C_afterStackOrVectorRead 85 = .ok (.invokevirtual 243, 3) := by decide +kernel
theorem d_C_afterStackOrVectorRead_88 : decode c_C_afterStackOrVectorRead 88 = .ok (.goto 112, 3) := by decide +kernel
theorem d_C_afterStackOrVectorRead_91 : decode c_C_afterStackOrVectorRead 91 = .ok (.aload_n 0, 1) := by decide +kernel
theorem d_C_afterStackOrVectorRead_92 : decode c_C_afterStackOrVectorRead 92 = .ok (.iload_n 1, 1) := by decide +kernel
theorem d_C_afterStackOrVectorRead_93 : decode c_C_afterStackOrVectorRead 93 = .ok (.invokevirtual 246, 3) := by decide +kernel
theorem d_C_afterStackOrVectorRead_96 : decode c_C_afterStackOrVectorRead 96 = .ok (.goto 104, 3) := by decide +kernel
theorem d_C_afterStackOrVectorRead_99 : decode c_C_afterStackOrVectorRead 99 = .ok (.aload_n 0, 1) := by decide +kernel
theorem d_C_afterStackOrVectorRead_100 : decode c_C_afterStackOrVectorRead 100 = .ok (.aload_n 0, 1) := by decide +kernel
theorem d_C_afterStackOrVectorRead_101 : decode c_C_afterStackOrVectorRead 101 = .ok (.getfield 20, 3) := by decide +kernel
theorem d_C_afterStackOrVectorRead_104 : decode c_C_afterStackOrVectorRead 104 = .ok (.getfield 86, 3) := by decide +kernel
theorem d_C_afterStackOrVectorRead_107 : decode c_C_afterStackOrVectorRead 107 = .ok (.iconst 1, 1) := by decide +kernel
theorem d_C_afterStackOrVectorRead_108 : decode c_C_afterStackOrVectorRead 108 = .ok (.iadd, 1) := by decide +kernel
theorem d_C_afterStackOrVectorRead_109 : decode c_C_afterStackOrVectorRead 109 = .ok (.invokevirtual 224, 3) := by decide +kernel
theorem d_C_afterStackOrVectorRead_112 : decode c_C_afterStackOrVectorRead 112 = .ok (.goto 88, 3) := by decide +kernel
theorem d_C_afterStackOrVectorRead_115 : decode c_C_afterStackOrVectorRead 115 = .ok (.aload_n 0, 1) := by decide +kernel
theorem d_C_afterStackOrVectorRead_116 : decode c_C_afterStackOrVectorRead 116 = .ok (.aload_n 0, 1) := by decide +kernel
theorem d_C_afterStackOrVectorRead_117 : decode c_C_afterStackOrVectorRead 117 = .ok (.getfield 95, 3) := by decide +kernel
theorem d_C_afterStackOrVectorRead_120 : decode c_C_afterStackOrVectorRead 120 = .ok (.iconst 2, 1) := by decide +kernel
theorem d_C_afterStackOrVectorRead_121 : decode c_C_afterStackOrVectorRead 121 = .ok (.if_icmp .ge 9, 3) := by decide +kernel
theorem d_C_afterStackOrVectorRead_124 : decode c_C_afterStackOrVectorRead 124 = .ok (.getstatic 249, 3) := by decide +kernel
theorem d_C_afterStackOrVectorRead_127 : decode c_C_afterStackOrVectorRead 127 = .ok (.goto 6, 3) := by decide +kernel
theorem d_C_afterStackOrVectorRead_130 : decode c_C_afterStackOrVectorRead 130 = .ok (.getstatic 252, 3) := by decide +kernel
theorem d_C_afterStackOrVectorRead_133 : decode c_C_afterStackOrVectorRead 133 = .ok (.putfield 30, 3) := by decide +kernel
theorem d_C_afterStackOrVectorRead_136 : decode c_C_afterStackOrVectorRead 136 = .ok (.goto 64, 3) := by decide +kernel
theorem d_C_afterStackOrVectorRead_139 : decode c_C_afterStackOrVectorRead 139 = .ok (.aload_n 0, 1) := by decide +kernel
theorem d_C_afterStackOrVectorRead_140 : decode c_C_afterStackOrVectorRead 140 = .ok (.iload_n 1, 1) := by decide +kernel
theorem d_C_afterStackOrVectorRead_141 : decode c_C_afterStackOrVectorRead 141 = .ok (.invokevirtual 255, 3) := by decide +kernel
theorem d_C_afterStackOrVectorRead_144 : decode c_C_afterStackOrVectorRead 144 = .ok (.goto 56, 3) := by decide +kernel
theorem d_C_afterStackOrVectorRead_147 : decode c_C_afterStackOrVectorRead 147 = .ok (.aload_n 0, 1) := by decide +kernel
theorem d_C_afterStackOrVectorRead_148 : decode c_C_afterStackOrVectorRead 148 = .ok (.aload_n 0, 1) := by decide +kernel
theorem d_C_afterStackOrVectorRead_149 : decode c_C_afterStackOrVectorRead 149 = .ok (.getfield 141, 3) := by decide +kernel
theorem d_C_afterStackOrVectorRead_152 : decode c_C_afterStackOrVectorRead 152 = .ok (.sipush 256, 3) := by decide +kernel
theorem d_C_afterStackOrVectorRead_155 : decode c_C_afterStackOrVectorRead 155 = .ok (.iload_n 1, 1) := by decide +kernel
theorem d_C_afterStackOrVectorRead_156 : decode c_C_afterStackOrVectorRead 156 = .ok (.imul, 1) := by decide +kernel
theorem d_C_afterStackOrVectorRead_157 : decode c_C_afterStackOrVectorRead 157 = .ok (.iadd, 1) := by decide +kernel
theorem d_C_afterStackOrVectorRead_158 : decode c_C_afterStackOrVectorRead 158 = .ok (.invokevirtual 224, 3) := by decide +kernel
theorem d_C_afterStackOrVectorRead_161 : decode c_C_afterStackOrVectorRead 161 = .ok (.goto 39, 3) := by decide +kernel
theorem d_C_afterStackOrVectorRead_164 : decode c_C_afterStackOrVectorRead 164 = .ok (.aload_n 0, 1) := by decide +kernel
theorem d_C_afterStackOrVectorRead_165 : decode c_C_afterStackOrVectorRead 165 = .ok (.aload_n 0, 1) := by decide +kernel
theorem d_C_afterStackOrVectorRead_166 : decode c_C_afterStackOrVectorRead 166 = .ok (.getfield 95, 3) := by decide +kernel
theorem d_C_afterStackOrVectorRead_169 : decode c_C_afterStackOrVectorRead 169 = .ok (.iconst 2, 1) := by decide +kernel
theorem d_C_afterStackOrVectorRead_170 : decode c_C_afterStackOrVectorRead 170 = .ok (.if_icmp .ge 9, 3) := by decide +kernel
theorem d_C_afterStackOrVectorRead_173 : decode c_C_afterStackOrVectorRead 173 = .ok (.getstatic 67, 3) := by decide +kernel
theorem d_C_afterStackOrVectorRead_176 : decode c_C_afterStackOrVectorRead 176 = .ok (.goto 6, 3) := by decide +kernel
theorem d_C_afterStackOrVectorRead_179 : decode c_C_afterStackOrVectorRead 179 = .ok (.getstatic 258, 3) := by decide +kernel
theorem d_C_afterStackOrVectorRead_182 : decode c_C_afterStackOrVectorRead 182 = .ok (.putfield 30, 3) := by decide +kernel
theorem d_C_afterStackOrVectorRead_185 : decode c_C_afterStackOrVectorRead 185 = .ok (.goto 15, 3) := by decide +kernel
theorem d_C_afterStackOrVectorRead_188 : decode c_C_afterStackOrVectorRead 188 = .ok (.aload_n 0, 1) := by decide +kernel
theorem d_C_afterStackOrVectorRead_189 : decode c_C_afterStackOrVectorRead 189 = .ok (.invokevirtual 261, 3) := by decide +kernel
theorem d_C_afterStackOrVectorRead_192 : decode c_C_afterStackOrVectorRead 192 = .ok (.goto 8, 3) := by decide +kernel
theorem d_C_afterStackOrVectorRead_195 : decode c_C_afterStackOrVectorRead 195 = .ok (.aload_n 0, 1) := by decide +kernel
theorem d_C_afterStackOrVectorRead_196 : decode c_C_afterStackOrVectorRead 196 = .ok (.iload_n 1, 1) := by decide +kernel
theorem d_C_afterStackOrVectorRead_197 : decode c_C_afterStackOrVectorRead 197 = .ok (.invokevirtual 264, 3) := by decide +kernel
theorem d_C_afterStackOrVectorRead_200 : decode c_C_afterStackOrVectorRead 200 = .ok (.return_, 1) := by decide +kernel
theorem d_C_stepAfterStackIdle_0 : decode c_C_stepAfterStackIdle 0 = .ok (.getstatic 320, 3) := by decide +kernel
theorem d_C_stepAfterStackIdle_3 : decode c_C_stepAfterStackIdle 3 = .ok (.aload_n 0, 1) := by decide +kernel
theorem d_C_stepAfterStackIdle_4 : decode c_C_stepAfterStackIdle 4 = .ok (.getfield 39, 3) := by decide +kernel
theorem d_C_stepAfterStackIdle_7 : decode c_C_stepAfterStackIdle 7 = .ok (.invokevirtual 323, 3) := by decide +kernel
theorem d_C_stepAfterStackIdle_10 : decode c_C_stepAfterStackIdle 10 = .ok (.iaload, 1) := by decide +kernel
theorem d_C_stepAfterStackIdle_11 : decode c_C_stepAfterStackIdle 11 = .ok (.lookupswitch 37 #[(6, 25), (9, 31)], 25) := by decide +kernel
theorem d_C_stepAfterStackIdle_36 : decode c_C_stepAfterStackIdle 36 = .ok (.getstatic 252, 3) := by decide +kernel
theorem d_C_stepAfterStackIdle_39 : decode c_C_stepAfterStackIdle 39 = .ok (.goto 12, 3) := by decide +kernel
theorem d_C_stepAfterStackIdle_42 : decode c_C_stepAfterStackIdle 42 = .ok (.getstatic 390, 3) := by decide +kernel
theorem d_C_stepAfterStackIdle_45 : decode c_C_stepAfterStackIdle 45 = .ok (.goto 6, 3) := by decide +kernel
theorem d_C_stepAfterStackIdle_48 : decode c_C_stepAfterStackIdle 48 = .ok (.getstatic 393, 3) := by decide +kernel
theorem d_C_stepAfterStackIdle_51 : decode c_C_stepAfterStackIdle 51 = .ok (.areturn, 1) := by decide +kernel
theorem d_C_afterPullByte_0 : decode c_C_afterPullByte 0 = .ok (.aload_n 0, 1) := by decide +kernel
theorem d_C_afterPullByte_1 : decode c_C_afterPullByte 1 = .ok (.getfield 20, 3) := by decide +kernel
theorem d_C_afterPullByte_4 : decode c_C_afterPullByte 4 = .ok (.iconst 1, 1) := by decide +kernel
theorem d_C_afterPullByte_5 : decode c_C_afterPullByte 5 = .ok (.invokevirtual 164, 3) := by decide +kernel
theorem d_C_afterPullByte_8 : decode c_C_afterPullByte 8 = .ok (.aload_n 0, 1) := by decide +kernel
theorem d_C_afterPullByte_9 : decode c_C_afterPullByte 9 = .ok (.getfield 39, 3) := by decide +kernel
theorem d_C_afterPullByte_12 : decode c_C_afterPullByte 12 = .ok (.getstatic 317, 3) := by decide +kernel
theorem d_C_afterPullByte_15 : decode c_C_afterPullByte 15 = .ok (.if_acmp .ne 19, 3) := by decide +kernel
theorem d_C_afterPullByte_18 : decode c_C_afterPullByte 18 = .ok (.aload_n 0, 1) := by decide +kernel
theorem d_C_afterPullByte_19 : decode c_C_afterPullByte 19 = .ok (.getfield 20, 3) := by decide +kernel
theorem d_C_afterPullByte_22 : decode c_C_afterPullByte 22 = .ok (.iload_n 1, 1) := by decide +kernel
theorem d_C_afterPullByte_23 : decode c_C_afterPullByte 23 = .ok (.invokevirtual 102, 3) := by decide +kernel
theorem d_C_afterPullByte_26 : decode c_C_afterPullByte 26 = .ok (.aload_n 0, 1) := by decide +kernel
theorem d_C_afterPullByte_27 : decode c_C_afterPullByte 27 = .ok (.getstatic 390, 3) := by decide +kernel
theorem d_C_afterPullByte_30 : decode c_C_afterPullByte 30 = .ok (.putfield 30, 3) := by decide +kernel
theorem d_C_afterPullByte_33 : decode c_C_afterPullByte 33 = .ok (.return_, 1) := by decide +kernel
theorem d_C_afterPullByte_34 : decode c_C_afterPullByte 34 = .ok (.aload_n 0, 1) := by decide +kernel
theorem d_C_afterPullByte_35 : decode c_C_afterPullByte 35 = .ok (.getfield 144, 3) := by decide +kernel
theorem d_C_afterPullByte_38 : decode c_C_afterPullByte 38 = .ok (.bipush 17, 2) := by decide +kernel
theorem d_C_afterPullByte_40 : decode c_C_afterPullByte 40 = .ok (.if_icmp .ne 14, 3) := by decide +kernel
theorem d_C_afterPullByte_43 : decode c_C_afterPullByte 43 = .ok (.aload_n 0, 1) := by decide +kernel
theorem d_C_afterPullByte_44 : decode c_C_afterPullByte 44 = .ok (.getfield 20, 3) := by decide +kernel
theorem d_C_afterPullByte_47 : decode c_C_afterPullByte 47 = .ok (.iload_n 1, 1) := by decide +kernel
theorem d_C_afterPullByte_48 : decode c_C_afterPullByte 48 = .ok (.invokevirtual 396, 3) := by decide +kernel
theorem d_C_afterPullByte_51 : decode c_C_afterPullByte 51 = .ok (.goto 11, 3) := by decide +kernel
theorem d_C_afterPullByte_54 : decode c_C_afterPullByte 54 = .ok (.aload_n 0, 1) := by decide +kernel
theorem d_C_afterPullByte_55 : decode c_C_afterPullByte 55 = .ok (.getfield 20, 3) := by decide +kernel
theorem d_C_afterPullByte_58 : decode c_C_afterPullByte 58 = .ok (.iload_n 1, 1) := by decide +kernel
theorem d_C_afterPullByte_59 : decode c_C_afterPullByte 59 = .ok (.invokevirtual 102, 3) := by decide +kernel
theorem d_C_afterPullByte_62 : decode c_C_afterPullByte 62 = .ok (.aload_n 0, 1) := by decide +kernel
theorem d_C_afterPullByte_63 : decode c_C_afterPullByte 63 = .ok (.invokevirtual 161, 3) := by decide +kernel
theorem d_C_afterPullByte_66 : decode c_C_afterPullByte 66 = .ok (.return_, 1) := by decide +kernel
theorem d_C_afterPullLow_0 : decode c_C_afterPullLow 0 = .ok (.aload_n 0, 1) := by decide +kernel
theorem d_C_afterPullLow_1 : decode c_C_afterPullLow 1 = .ok (.getfield 20, 3) := by decide +kernel
theorem d_C_afterPullLow_4 : decode c_C_afterPullLow 4 = .ok (.iconst 1, 1) := by decide +kernel
theorem d_C_afterPullLow_5 : decode c_C_afterPullLow 5 = .ok (.invokevirtual 164, 3) := by decide +kernel
theorem d_C_afterPullLow_8 : decode c_C_afterPullLow 8 = .ok (.aload_n 0, 1) := by decide +kernel
theorem d_C_afterPullLow_9 : decode c_C_afterPullLow 9 = .ok (.iload_n 1, 1) := by decide +kernel
theorem d_C_afterPullLow_10 : decode c_C_afterPullLow 10 = .ok (.putfield 141, 3) := by decide +kernel
theorem d_C_afterPullLow_13 : decode c_C_afterPullLow 13 = .ok (.aload_n 0, 1) := by decide +kernel
theorem d_C_afterPullLow_14 : decode c_C_afterPullLow 14 = .ok (.getstatic 399, 3) := by decide +kernel
theorem d_C_afterPullLow_17 : decode c_C_afterPullLow 17 = .ok (.putfield 30, 3) := by decide +kernel
theorem d_C_afterPullLow_20 : decode c_C_afterPullLow 20 = .ok (.return_, 1) := by decide +kernel
theorem d_C_afterPullPage_0 : decode c_C_afterPullPage 0 = .ok (.aload_n 0, 1) := by decide +kernel
theorem d_C_afterPullPage_1 : decode c_C_afterPullPage 1 = .ok (.getfield 20, 3) := by decide +kernel
theorem d_C_afterPullPage_4 : decode c_C_afterPullPage 4 = .ok (.iconst 1, 1) := by decide +kernel
theorem d_C_afterPullPage_5 : decode c_C_afterPullPage 5 = .ok (.invokevirtual 164, 3) := by decide +kernel
theorem d_C_afterPullPage_8 : decode c_C_afterPullPage 8 = .ok (.aload_n 0, 1) := by decide +kernel
theorem d_C_afterPullPage_9 : decode c_C_afterPullPage 9 = .ok (.getfield 20, 3) := by decide +kernel
theorem d_C_afterPullPage_12 : decode c_C_afterPullPage 12 = .ok (.aload_n 0, 1) := by decide +kernel
theorem d_C_afterPullPage_13 : decode c_C_afterPullPage 13 = .ok (.getfield 141, 3) := by decide +kernel
theorem d_C_afterPullPage_16 : decode c_C_afterPullPage 16 = .ok (.sipush 256, 3) := by decide +kernel
theorem d_C_afterPullPage_19 : decode c_C_afterPullPage 19 = .ok (.iload_n 1, 1) := by decide +kernel
theorem d_C_afterPullPage_20 : decode c_C_afterPullPage 20 = .ok (.imul, 1) := by decide +kernel
theorem d_C_afterPullPage_21 : decode c_C_afterPullPage 21 = .ok (.iadd, 1) := by decide +kernel
theorem d_C_afterPullPage_22 : decode c_C_afterPullPage 22 = .ok (.putfield 86, 3) := by decide +kernel
theorem d_C_afterPullPage_25 : decode c_C_afterPullPage 25 = .ok (.aload_n 0, 1) := by decide +kernel
theorem d_C_afterPullPage_26 : decode c_C_afterPullPage 26 = .ok (.getfield 39, 3) := by decide +kernel
theorem d_C_afterPullPage_29 : decode c_C_afterPullPage 29 = .ok (.getstatic 314, 3) := by decide +kernel
theorem d_C_afterPullPage_32 : decode c_C_afterPullPage 32 = .ok (.if_acmp .ne 13, 3) := by decide +kernel
theorem d_C_afterPullPage_35 : decode c_C_afterPullPage 35 = .ok (.aload_n 0, 1) := by decide +kernel
theorem d_C_afterPullPage_36 : decode c_C_afterPullPage 36 = .ok (.getstatic 402, 3) := by decide +kernel
theorem d_C_afterPullPage_39 : decode c_C_afterPullPage 39 = .ok (.putfield 30, 3) := by decide +kernel
theorem d_C_afterPullPage_42 : decode c_C_afterPullPage 42 = .ok (.goto 7, 3) := by decide +kernel
theorem d_C_afterPullPage_45 : decode c_C_afterPullPage 45 = .ok (.aload_n 0, 1) := by decide +kernel
theorem d_C_afterPullPage_46 : decode c_C_afterPullPage 46 = .ok (.invokevirtual 161, 3) := by decide +kernel
theorem d_C_afterPullPage_49 : decode c_C_afterPullPage 49 = .ok (.return_, 1) := by decide +kernel
theorem d_C_afterVectorLow_0 : decode c_C_afterVectorLow 0 = .ok (.aload_n 0, 1) := by decide +kernel
theorem d_C_afterVectorLow_1 : decode c_C_afterVectorLow 1 = .ok (.iload_n 1, 1) := by decide +kernel
theorem d_C_afterVectorLow_2 : decode c_C_afterVectorLow 2 = .ok (.putfield 141, 3) := by decide +kernel
theorem d_C_afterVectorLow_5 : decode c_C_afterVectorLow 5 = .ok (.aload_n 0, 1) := by decide +kernel
theorem d_C_afterVectorLow_6 : decode c_C_afterVectorLow 6 = .ok (.aload_n 0, 1) := by decide +kernel
theorem d_C_afterVectorLow_7 : decode c_C_afterVectorLow 7 = .ok (.invokevirtual 109, 3) := by decide +kernel
theorem d_C_afterVectorLow_10 : decode c_C_afterVectorLow 10 = .ok (.iconst 1, 1) := by decide +kernel
theorem d_C_afterVectorLow_11 : decode c_C_afterVectorLow 11 = .ok (.iadd, 1) := by decide +kernel
theorem d_C_afterVectorLow_12 : decode c_C_afterVectorLow 12 = .ok (.putfield 127, 3) := by decide +kernel
theorem d_C_afterVectorLow_15 : decode c_C_afterVectorLow 15 = .ok (.aload_n 0, 1) := by decide +kernel
theorem d_C_afterVectorLow_16 : decode c_C_afterVectorLow 16 = .ok (.iconst 0, 1) := by decide +kernel
theorem d_C_afterVectorLow_17 : decode c_C_afterVectorLow 17 = .ok (.putfield 60, 3) := by decide +kernel
theorem d_C_afterVectorLow_20 : decode c_C_afterVectorLow 20 = .ok (.aload_n 0, 1) := by decide +kernel
theorem d_C_afterVectorLow_21 : decode c_C_afterVectorLow 21 = .ok (.getstatic 405, 3) := by decide +kernel
theorem d_C_afterVectorLow_24 : decode c_C_afterVectorLow 24 = .ok (.putfield 30, 3) := by decide +kernel
theorem d_C_afterVectorLow_27 : decode c_C_afterVectorLow 27 = .ok (.return_, 1) := by decide +kernel
theorem d_C_afterResetStack_0 : decode c_C_afterResetStack 0 = .ok (.aload_n 0, 1) := by decide +kernel
theorem d_C_afterResetStack_1 : decode c_C_afterResetStack 1 = .ok (.getfield 20, 3) := by decide +kernel
theorem d_C_afterResetStack_4 : decode c_C_afterResetStack 4 = .ok (.iconst (-1), 1) := by decide +kernel
theorem d_C_afterResetStack_5 : decode c_C_afterResetStack 5 = .ok (.invokevirtual 164, 3) := by decide +kernel
theorem d_C_afterResetStack_8 : decode c_C_afterResetStack 8 = .ok (.aload_n 0, 1) := by decide +kernel
theorem d_C_afterResetStack_9 : decode c_C_afterResetStack 9 = .ok (.aload_n 0, 1) := by decide +kernel
theorem d_C_afterResetStack_10 : decode c_C_afterResetStack 10 = .ok (.getfield 95, 3) := by decide +kernel
theorem d_C_afterResetStack_13 : decode c_C_afterResetStack 13 = .ok (.iconst 5, 1) := by decide +kernel
theorem d_C_afterResetStack_14 : decode c_C_afterResetStack 14 = .ok (.if_icmp .ge 9, 3) := by decide +kernel
theorem d_C_afterResetStack_17 : decode c_C_afterResetStack 17 = .ok (.getstatic 258, 3) := by decide +kernel
theorem d_C_afterResetStack_20 : decode c_C_afterResetStack 20 = .ok (.goto 6, 3) := by decide +kernel
theorem d_C_afterResetStack_23 : decode c_C_afterResetStack 23 = .ok (.getstatic 408, 3) := by decide +kernel
theorem d_C_afterResetStack_26 : decode c_C_afterResetStack 26 = .ok (.putfield 30, 3) := by decide +kernel
theorem d_C_afterResetStack_29 : decode c_C_afterResetStack 29 = .ok (.return_, 1) := by decide +kernel
theorem d_C_afterResetLow_0 : decode c_C_afterResetLow 0 = .ok (.aload_n 0, 1) := by decide +kernel
theorem d_C_afterResetLow_1 : decode c_C_afterResetLow 1 = .ok (.getfield 20, 3) := by decide +kernel
theorem d_C_afterResetLow_4 : decode c_C_afterResetLow 4 = .ok (.iconst 4, 1) := by decide +kernel
theorem d_C_afterResetLow_5 : decode c_C_afterResetLow 5 = .ok (.iconst 1, 1) := by decide +kernel
theorem d_C_afterResetLow_6 : decode c_C_afterResetLow 6 = .ok (.invokevirtual 105, 3) := by decide +kernel
theorem d_C_afterResetLow_9 : decode c_C_afterResetLow 9 = .ok (.aload_n 0, 1) := by decide +kernel
theorem d_C_afterResetLow_10 : decode c_C_afterResetLow 10 = .ok (.iload_n 1, 1) := by decide +kernel
theorem d_C_afterResetLow_11 : decode c_C_afterResetLow 11 = .ok (.putfield 141, 3) := by decide +kernel
theorem d_C_afterResetLow_14 : decode c_C_afterResetLow 14 = .ok (.aload_n 0, 1) := by decide +kernel
theorem d_C_afterResetLow_15 : decode c_C_afterResetLow 15 = .ok (.ldc_w 411, 3) := by decide +kernel
theorem d_C_afterResetLow_18 : decode c_C_afterResetLow 18 = .ok (.putfield 127, 3) := by decide +kernel
theorem d_C_afterResetLow_21 : decode c_C_afterResetLow 21 = .ok (.aload_n 0, 1) := by decide +kernel
theorem d_C_afterResetLow_22 : decode c_C_afterResetLow 22 = .ok (.getstatic 405, 3) := by decide +kernel
theorem d_C_afterResetLow_25 : decode c_C_afterResetLow 25 = .ok (.putfield 30, 3) := by decide +kernel
theorem d_C_afterResetLow_28 : decode c_C_afterResetLow 28 = .ok (.return_, 1) := by decide +kernel
theorem d_C_reset_0 : decode c_C_reset 0 = .ok (.aload_n 0, 1) := by decide +kernel
theorem d_C_reset_1 : decode c_C_reset 1 = .ok (.iconst 0, 1) := by decide +kernel
theorem d_C_reset_2 : decode c_C_reset 2 = .ok (.putfield 60, 3) := by decide +kernel
theorem d_C_reset_5 : decode c_C_reset 5 = .ok (.aload_n 0, 1) := by decide +kernel
theorem d_C_reset_6 : decode c_C_reset 6 = .ok (.getstatic 64, 3) := by decide +kernel
theorem d_C_reset_9 : decode c_C_reset 9 = .ok (.getstatic 67, 3) := by decide +kernel
theorem d_C_reset_12 : decode c_C_reset 12 = .ok (.invokevirtual 70, 3) := by decide +kernel
theorem d_C_reset_15 : decode c_C_reset 15 = .ok (.return_, 1) := by decide +kernel
theorem d_C_cycles_0 : decode c_C_cycles 0 = .ok (.iload_n 1, 1) := by decide +kernel
theorem d_C_cycles_1 : decode c_C_cycles 1 = .ok (.ifCond .lt 10, 3) := by decide +kernel
theorem d_C_cycles_4 : decode c_C_cycles 4 = .ok (.iload_n 1, 1) := by decide +kernel
theorem d_C_cycles_5 : decode c_C_cycles 5 = .ok (.sipush 200, 3) := by decide +kernel
theorem d_C_cycles_8 : decode c_C_cycles 8 = .ok (.if_icmp .le 11, 3) := by decide +kernel
theorem d_C_cycles_11 : decode c_C_cycles 11 = .ok (.new 46, 3) := by decide +kernel
theorem d_C_cycles_14 : decode c_C_cycles 14 = .ok (.dup, 1) := by decide +kernel
theorem d_C_cycles_15 : decode c_C_cycles 15 = .ok (.invokespecial 48, 3) := by decide +kernel
theorem d_C_cycles_18 : decode c_C_cycles 18 = .ok (.athrow, 1) := by decide +kernel
theorem d_C_cycles_19 : decode c_C_cycles 19 = .ok (.aload_n 0, 1) := by decide +kernel
theorem d_C_cycles_20 : decode c_C_cycles 20 = .ok (.getfield 49, 3) := by decide +kernel
theorem d_C_cycles_23 : decode c_C_cycles 23 = .ok (.istore_n 2, 1) := by decide +kernel
theorem d_C_cycles_24 : decode c_C_cycles 24 = .ok (.iconst 0, 1) := by decide +kernel
theorem d_C_cycles_25 : decode c_C_cycles 25 = .ok (.istore_n 3, 1) := by decide +kernel
theorem d_C_cycles_26 : decode c_C_cycles 26 = .ok (.iload_n 3, 1) := by decide +kernel
theorem d_C_cycles_27 : decode c_C_cycles 27 = .ok (.iload_n 1, 1) := by decide +kernel
theorem d_C_cycles_28 : decode c_C_cycles 28 = .ok (.if_icmp .ge 14, 3) := by decide +kernel
theorem d_C_cycles_31 : decode c_C_cycles 31 = .ok (.aload_n 0, 1) := by decide +kernel
theorem d_C_cycles_32 : decode c_C_cycles 32 = .ok (.invokevirtual 42, 3) := by decide +kernel
theorem d_C_cycles_35 : decode c_C_cycles 35 = .ok (.pop, 1) := by decide +kernel
theorem d_C_cycles_36 : decode c_C_cycles 36 = .ok (.iinc 3 1, 3) := by decide +kernel
theorem d_C_cycles_39 : decode c_C_cycles 39 = .ok (.goto (-13), 3) := by decide +kernel
theorem d_C_cycles_42 : decode c_C_cycles 42 = .ok (.aload_n 0, 1) := by decide +kernel
theorem d_C_cycles_43 : decode c_C_cycles 43 = .ok (.getfield 49, 3) := by decide +kernel
theorem d_C_cycles_46 : decode c_C_cycles 46 = .ok (.iload_n 2, 1) := by decide +kernel
theorem d_C_cycles_47 : decode c_C_cycles 47 = .ok (.isub, 1) := by decide +kernel
theorem d_C_cycles_48 : decode c_C_cycles 48 = .ok (.ireturn, 1) := by decide +kernel
theorem d_C_pin_0 : decode c_C_pin 0 = .ok (.iload_n 1, 1) := by decide +kernel
theorem d_C_pin_1 : decode c_C_pin 1 = .ok (.ifCond .lt 8, 3) := by decide +kernel
theorem d_C_pin_4 : decode c_C_pin 4 = .ok (.iload_n 1, 1) := by decide +kernel
theorem d_C_pin_5 : decode c_C_pin 5 = .ok (.iconst 4, 1) := by decide +kernel
theorem d_C_pin_6 : decode c_C_pin 6 = .ok (.if_icmp .lt 11, 3) := by decide +kernel
theorem d_C_pin_9 : decode c_C_pin 9 = .ok (.new 53, 3) := by decide +kernel
theorem d_C_pin_12 : decode c_C_pin 12 = .ok (.dup, 1) := by decide +kernel
theorem d_C_pin_13 : decode c_C_pin 13 = .ok (.invokespecial 55, 3) := by decide +kernel
theorem d_C_pin_16 : decode c_C_pin 16 = .ok (.athrow, 1) := by decide +kernel
theorem d_C_pin_17 : decode c_C_pin 17 = .ok (.aload_n 0, 1) := by decide +kernel
theorem d_C_pin_18 : decode c_C_pin 18 = .ok (.getfield 13, 3) := by decide +kernel
theorem d_C_pin_21 : decode c_C_pin 21 = .ok (.iload_n 1, 1) := by decide +kernel
theorem d_C_pin_22 : decode c_C_pin 22 = .ok (.baload, 1) := by decide +kernel
theorem d_C_pin_23 : decode c_C_pin 23 = .ok (.istore_n 3, 1) := by decide +kernel
theorem d_C_pin_24 : decode c_C_pin 24 = .ok (.aload_n 0, 1) := by decide +kernel
theorem d_C_pin_25 : decode c_C_pin 25 = .ok (.getfield 13, 3) := by decide +kernel
theorem d_C_pin_28 : decode c_C_pin 28 = .ok (.iload_n 1, 1) := by decide +kernel
theorem d_C_pin_29 : decode c_C_pin 29 = .ok (.iload_n 2, 1) := by decide +kernel
theorem d_C_pin_30 : decode c_C_pin 30 = .ok (.bastore, 1) := by decide +kernel
theorem d_C_pin_31 : decode c_C_pin 31 = .ok (.iload_n 2, 1) := by decide +kernel
theorem d_C_pin_32 : decode c_C_pin 32 = .ok (.ifCond .eq 12, 3) := by decide +kernel
theorem d_C_pin_35 : decode c_C_pin 35 = .ok (.iload_n 3, 1) := by decide +kernel
theorem d_C_pin_36 : decode c_C_pin 36 = .ok (.ifCond .ne 8, 3) := by decide +kernel
theorem d_C_pin_39 : decode c_C_pin 39 = .ok (.aload_n 0, 1) := by decide +kernel
theorem d_C_pin_40 : decode c_C_pin 40 = .ok (.iload_n 1, 1) := by decide +kernel
theorem d_C_pin_41 : decode c_C_pin 41 = .ok (.invokevirtual 56, 3) := by decide +kernel
theorem d_C_pin_44 : decode c_C_pin 44 = .ok (.iload_n 3, 1) := by decide +kernel
theorem d_C_pin_45 : decode c_C_pin 45 = .ok (.ireturn, 1) := by decide +kernel
theorem d_C_pinWentOn_0 : decode c_C_pinWentOn 0 = .ok (.iload_n 1, 1) := by decide +kernel
theorem d_C_pinWentOn_1 : decode c_C_pinWentOn 1 = .ok (.ifCond .ne 11, 3) := by decide +kernel
theorem d_C_pinWentOn_4 : decode c_C_pinWentOn 4 = .ok (.aload_n 0, 1) := by decide +kernel
theorem d_C_pinWentOn_5 : decode c_C_pinWentOn 5 = .ok (.iconst 1, 1) := by decide +kernel
theorem d_C_pinWentOn_6 : decode c_C_pinWentOn 6 = .ok (.putfield 60, 3) := by decide +kernel
theorem d_C_pinWentOn_9 : decode c_C_pinWentOn 9 = .ok (.goto 18, 3) := by decide +kernel
theorem d_C_pinWentOn_12 : decode c_C_pinWentOn 12 = .ok (.iload_n 1, 1) := by decide +kernel
theorem d_C_pinWentOn_13 : decode c_C_pinWentOn 13 = .ok (.iconst 3, 1) := by decide +kernel
theorem d_C_pinWentOn_14 : decode c_C_pinWentOn 14 = .ok (.if_icmp .ne 13, 3) := by decide +kernel
theorem d_C_pinWentOn_17 : decode c_C_pinWentOn 17 = .ok (.aload_n 0, 1) := by decide +kernel
theorem d_C_pinWentOn_18 : decode c_C_pinWentOn 18 = .ok (.getfield 20, 3) := by decide +kernel
theorem d_C_pinWentOn_21 : decode c_C_pinWentOn 21 = .ok (.bipush 64, 2) := by decide +kernel
theorem d_C_pinWentOn_23 : decode c_C_pinWentOn 23 = .ok (.iconst 1, 1) := by decide +kernel
theorem d_C_pinWentOn_24 : decode c_C_pinWentOn 24 = .ok (.invokevirtual 105, 3) := by decide +kernel
theorem d_C_pinWentOn_27 : decode c_C_pinWentOn 27 = .ok (.return_, 1) := by decide +kernel
theorem d_C_register_0 : decode c_C_register 0 = .ok (.iload_n 1, 1) := by decide +kernel
theorem d_C_register_1 : decode c_C_register 1 = .ok (.ifCond .lt 9, 3) := by decide +kernel
theorem d_C_register_4 : decode c_C_register 4 = .ok (.iload_n 1, 1) := by decide +kernel
theorem d_C_register_5 : decode c_C_register 5 = .ok (.bipush 7, 2) := by decide +kernel
theorem d_C_register_7 : decode c_C_register 7 = .ok (.if_icmp .le 11, 3) := by decide +kernel
theorem d_C_register_10 : decode c_C_register 10 = .ok (.new 53, 3) := by decide +kernel
theorem d_C_register_13 : decode c_C_register 13 = .ok (.dup, 1) := by decide +kernel
theorem d_C_register_14 : decode c_C_register 14 = .ok (.invokespecial 55, 3) := by decide +kernel
theorem d_C_register_17 : decode c_C_register 17 = .ok (.athrow, 1) := by decide +kernel
theorem d_C_register_18 : decode c_C_register 18 = .ok (.iload_n 1, 1) := by decide +kernel
theorem d_C_register_19 : decode c_C_register 19 = .ok (.tableswitch 119 0 6 #[41, 51, 61, 71, 81, 91, 101], 41) := by decide +kernel
theorem d_C_register_60 : decode c_C_register 60 = .ok (.aload_n 0, 1) := by decide +kernel
theorem d_C_register_61 : decode c_C_register 61 = .ok (.getfield 20, 3) := by decide +kernel
theorem d_C_register_64 : decode c_C_register 64 = .ok (.getfield 74, 3) := by decide +kernel
theorem d_C_register_67 : decode c_C_register 67 = .ok (.goto 75, 3) := by decide +kernel
theorem d_C_register_70 : decode c_C_register 70 = .ok (.aload_n 0, 1) := by decide +kernel
theorem d_C_register_71 : decode c_C_register 71 = .ok (.getfield 20, 3) := by decide +kernel
theorem d_C_register_74 : decode c_C_register 74 = .ok (.getfield 77, 3) := by decide +kernel
theorem d_C_register_77 : decode c_C_register 77 = .ok (.goto 65, 3) := by decide +kernel
theorem d_C_register_80 : decode c_C_register 80 = .ok (.aload_n 0, 1) := by decide +kernel
theorem d_C_register_81 : decode c_C_register 81 = .ok (.getfield 20, 3) := by decide +kernel
theorem d_C_register_84 : decode c_C_register 84 = .ok (.getfield 80, 3) := by decide +kernel
theorem d_C_register_87 : decode c_C_register 87 = .ok (.goto 55, 3) := by decide +kernel
theorem d_C_register_90 : decode c_C_register 90 = .ok (.aload_n 0, 1) := by decide +kernel
theorem d_C_register_91 : decode c_C_register 91 = .ok (.getfield 20, 3) := by decide +kernel
theorem d_C_register_94 : decode c_C_register 94 = .ok (.getfield 83, 3) := by decide +kernel
theorem d_C_register_97 : decode c_C_register 97 = .ok (.goto 45, 3) := by decide +kernel
theorem d_C_register_100 : decode c_C_register 100 = .ok (.aload_n 0, 1) := by decide +kernel
theorem d_C_register_101 : decode c_C_register 101 = .ok (.getfield 20, 3) := by decide +kernel
theorem d_C_register_104 : decode c_C_register 104 = .ok (.getfield 86, 3) := by decide +kernel
theorem d_C_register_107 : decode c_C_register 107 = .ok (.goto 35, 3) := by decide +kernel
theorem d_C_register_110 : decode c_C_register 110 = .ok (.aload_n 0, 1) := by decide +kernel
theorem d_C_register_111 : decode c_C_register 111 = .ok (.getfield 20, 3) := by decide +kernel
theorem d_C_register_114 : decode c_C_register 114 = .ok (.invokevirtual 89, 3) := by decide +kernel
theorem d_C_register_117 : decode c_C_register 117 = .ok (.goto 25, 3) := by decide +kernel
theorem d_C_register_120 : decode c_C_register 120 = .ok (.aload_n 0, 1) := by decide +kernel
theorem d_C_register_121 : decode c_C_register 121 = .ok (.getfield 30, 3) := by decide +kernel
theorem d_C_register_124 : decode c_C_register 124 = .ok (.getstatic 92, 3) := by decide +kernel
theorem d_C_register_127 : decode c_C_register 127 = .ok (.if_acmp .ne 7, 3) := by decide +kernel
theorem d_C_register_130 : decode c_C_register 130 = .ok (.iconst 1, 1) := by decide +kernel
theorem d_C_register_131 : decode c_C_register 131 = .ok (.goto 11, 3) := by decide +kernel
theorem d_C_register_134 : decode c_C_register 134 = .ok (.iconst 0, 1) := by decide +kernel
theorem d_C_register_135 : decode c_C_register 135 = .ok (.goto 7, 3) := by decide +kernel
theorem d_C_register_138 : decode c_C_register 138 = .ok (.aload_n 0, 1) := by decide +kernel
theorem d_C_register_139 : decode c_C_register 139 = .ok (.getfield 95, 3) := by decide +kernel
theorem d_C_register_142 : decode c_C_register 142 = .ok (.ireturn, 1) := by decide +kernel
theorem d_C_set_0 : decode c_C_set 0 = .ok (.iload_n 1, 1) := by decide +kernel
theorem d_C_set_1 : decode c_C_set 1 = .ok (.ifCond .lt 8, 3) := by decide +kernel
theorem d_C_set_4 : decode c_C_set 4 = .ok (.iload_n 1, 1) := by decide +kernel
theorem d_C_set_5 : decode c_C_set 5 = .ok (.iconst 5, 1) := by decide +kernel
theorem d_C_set_6 : decode c_C_set 6 = .ok (.if_icmp .le 11, 3) := by decide +kernel
theorem d_C_set_9 : decode c_C_set 9 = .ok (.new 53, 3) := by decide +kernel
theorem d_C_set_12 : decode c_C_set 12 = .ok (.dup, 1) := by decide +kernel
theorem d_C_set_13 : decode c_C_set 13 = .ok (.invokespecial 55, 3) := by decide +kernel
theorem d_C_set_16 : decode c_C_set 16 = .ok (.athrow, 1) := by decide +kernel
theorem d_C_set_17 : decode c_C_set 17 = .ok (.aload_n 0, 1) := by decide +kernel
theorem d_C_set_18 : decode c_C_set 18 = .ok (.getfield 30, 3) := by decide +kernel
theorem d_C_set_21 : decode c_C_set 21 = .ok (.getstatic 24, 3) := by decide +kernel
theorem d_C_set_24 : decode c_C_set 24 = .ok (.if_acmp .eq 11, 3) := by decide +kernel
theorem d_C_set_27 : decode c_C_set 27 = .ok (.new 98, 3) := by decide +kernel
theorem d_C_set_30 : decode c_C_set 30 = .ok (.dup, 1) := by decide +kernel
theorem d_C_set_31 : decode c_C_set 31 = .ok (.invokespecial 100, 3) := by decide +kernel
theorem d_C_set_34 : decode c_C_set 34 = .ok (.athrow, 1) := by decide +kernel
theorem d_C_set_35 : decode c_C_set 35 = .ok (.iload_n 1, 1) := by decide +kernel
theorem d_C_set_36 : decode c_C_set 36 = .ok (.tableswitch 110 0 4 #[36, 51, 66, 81, 96], 36) := by decide +kernel
theorem d_C_set_72 : decode c_C_set 72 = .ok (.aload_n 0, 1) := by decide +kernel
theorem d_C_set_73 : decode c_C_set 73 = .ok (.getfield 20, 3) := by decide +kernel
theorem d_C_set_76 : decode c_C_set 76 = .ok (.iload_n 2, 1) := by decide +kernel
theorem d_C_set_77 : decode c_C_set 77 = .ok (.sipush 255, 3) := by decide +kernel
theorem d_C_set_80 : decode c_C_set 80 = .ok (.iand, 1) := by decide +kernel
theorem d_C_set_81 : decode c_C_set 81 = .ok (.putfield 74, 3) := by decide +kernel
theorem d_C_set_84 : decode c_C_set 84 = .ok (.goto 70, 3) := by decide +kernel
theorem d_C_set_87 : decode c_C_set 87 = .ok (.aload_n 0, 1) := by decide +kernel
theorem d_C_set_88 : decode c_C_set 88 = .ok (.getfield 20, 3) := by decide +kernel
theorem d_C_set_91 : decode c_C_set 91 = .ok (.iload_n 2, 1) := by decide +kernel
theorem d_C_set_92 : decode c_C_set 92 = .ok (.sipush 255, 3) := by decide +kernel
theorem d_C_set_95 : decode c_C_set 95 = .ok (.iand, 1) := by decide +kernel
theorem d_C_set_96 : decode c_C_set 96 = .ok (.putfield 77, 3) := by decide +kernel
theorem d_C_set_99 : decode c_C_set 99 = .ok (.goto 55, 3) := by decide +kernel
theorem d_C_set_102 : decode c_C_set 102 = .ok (.aload_n 0, 1) := by decide +kernel
theorem d_C_set_103 : decode c_C_set 103 = .ok (.getfield 20, 3) := by decide +kernel
theorem d_C_set_106 : decode c_C_set 106 = .ok (.iload_n 2, 1) := by decide +kernel
theorem d_C_set_107 : decode c_C_set 107 = .ok (.sipush 255, 3) := by decide +kernel
theorem d_C_set_110 : decode c_C_set 110 = .ok (.iand, 1) := by decide +kernel
theorem d_C_set_111 : decode c_C_set 111 = .ok (.putfield 80, 3) := by decide +kernel
theorem d_C_set_114 : decode c_C_set 114 = .ok (.goto 40, 3) := by decide +kernel
theorem d_C_set_117 : decode c_C_set 117 = .ok (.aload_n 0, 1) := by decide +kernel
theorem d_C_set_118 : decode c_C_set 118 = .ok (.getfield 20, 3) := by decide +kernel
theorem d_C_set_121 : decode c_C_set 121 = .ok (.iload_n 2, 1) := by decide +kernel
theorem d_C_set_122 : decode c_C_set 122 = .ok (.sipush 255, 3) := by decide +kernel
theorem d_C_set_125 : decode c_C_set 125 = .ok (.iand, 1) := by decide +kernel
theorem d_C_set_126 : decode c_C_set 126 = .ok (.putfield 83, 3) := by decide +kernel
theorem d_C_set_129 : decode c_C_set 129 = .ok (.goto 25, 3) := by decide +kernel
theorem d_C_set_132 : decode c_C_set 132 = .ok (.aload_n 0, 1) := by decide +kernel
theorem d_C_set_133 : decode c_C_set 133 = .ok (.getfield 20, 3) := by decide +kernel
theorem d_C_set_136 : decode c_C_set 136 = .ok (.iload_n 2, 1) := by decide +kernel
theorem d_C_set_137 : decode c_C_set 137 = .ok (.ldc 101, 2) := by decide +kernel
theorem d_C_set_139 : decode c_C_set 139 = .ok (.iand, 1) := by decide +kernel
theorem d_C_set_140 : decode c_C_set 140 = .ok (.putfield 86, 3) := by decide +kernel
theorem d_C_set_143 : decode c_C_set 143 = .ok (.goto 11, 3) := by decide +kernel
theorem d_C_set_146 : decode c_C_set 146 = .ok (.aload_n 0, 1) := by decide +kernel
theorem d_C_set_147 : decode c_C_set 147 = .ok (.getfield 20, 3) := by decide +kernel
theorem d_C_set_150 : decode c_C_set 150 = .ok (.iload_n 2, 1) := by decide +kernel
theorem d_C_set_151 : decode c_C_set 151 = .ok (.invokevirtual 102, 3) := by decide +kernel
theorem d_C_set_154 : decode c_C_set 154 = .ok (.return_, 1) := by decide +kernel
