theorem dX4_init_0 : decode cX4_init 0 = .ok (.aload_n 0, 1) := by decide +kernel
theorem dX4_init_1 : decode cX4_init 1 = .ok (.invokespecial 3, 3) := by decide +kernel
theorem dX4_init_4 : decode cX4_init 4 = .ok (.return_, 1) := by decide +kernel
theorem dX4_levelOf_0 : decode cX4_levelOf 0 = .ok (.iconst 0, 1) := by decide +kernel
theorem dX4_levelOf_1 : decode cX4_levelOf 1 = .ok (.istore_n 1, 1) := by decide +kernel
theorem dX4_levelOf_2 : decode cX4_levelOf 2 = .ok (.iload_n 0, 1) := by decide +kernel
theorem dX4_levelOf_3 : decode cX4_levelOf 3 = .ok (.istore_n 2, 1) := by decide +kernel
theorem dX4_levelOf_4 : decode cX4_levelOf 4 = .ok (.iload_n 2, 1) := by decide +kernel
theorem dX4_levelOf_5 : decode cX4_levelOf 5 = .ok (.ifCond .le 15, 3) := by decide +kernel
theorem dX4_levelOf_8 : decode cX4_levelOf 8 = .ok (.iinc 1 1, 3) := by decide +kernel
theorem dX4_levelOf_11 : decode cX4_levelOf 11 = .ok (.iload_n 2, 1) := by decide +kernel
theorem dX4_levelOf_12 : decode cX4_levelOf 12 = .ok (.iconst 1, 1) := by decide +kernel
theorem dX4_levelOf_13 : decode cX4_levelOf 13 = .ok (.isub, 1) := by decide +kernel
theorem dX4_levelOf_14 : decode cX4_levelOf 14 = .ok (.iconst 2, 1) := by decide +kernel
theorem dX4_levelOf_15 : decode cX4_levelOf 15 = .ok (.idiv, 1) := by decide +kernel
theorem dX4_levelOf_16 : decode cX4_levelOf 16 = .ok (.istore_n 2, 1) := by decide +kernel
theorem dX4_levelOf_17 : decode cX4_levelOf 17 = .ok (.goto (-13), 3) := by decide +kernel
theorem dX4_levelOf_20 : decode cX4_levelOf 20 = .ok (.iload_n 1, 1) := by decide +kernel
theorem dX4_levelOf_21 : decode cX4_levelOf 21 = .ok (.ireturn, 1) := by decide +kernel
theorem dX4_isLow_0 : decode cX4_isLow 0 = .ok (.iload_n 0, 1) := by decide +kernel
theorem dX4_isLow_1 : decode cX4_isLow 1 = .ok (.invokestatic 9, 3) := by decide +kernel
theorem dX4_isLow_4 : decode cX4_isLow 4 = .ok (.iconst 2, 1) := by decide +kernel
theorem dX4_isLow_5 : decode cX4_isLow 5 = .ok (.irem, 1) := by decide +kernel
theorem dX4_isLow_6 : decode cX4_isLow 6 = .ok (.ifCond .ne 7, 3) := by decide +kernel
theorem dX4_isLow_9 : decode cX4_isLow 9 = .ok (.iconst 1, 1) := by decide +kernel
theorem dX4_isLow_10 : decode cX4_isLow 10 = .ok (.goto 4, 3) := by decide +kernel
theorem dX4_isLow_13 : decode cX4_isLow 13 = .ok (.iconst 0, 1) := by decide +kernel
theorem dX4_isLow_14 : decode cX4_isLow 14 = .ok (.ireturn, 1) := by decide +kernel
theorem dX4_greatestPosition_0 : decode cX4_greatestPosition 0 = .ok (.aload_n 0, 1) := by decide +kernel
theorem dX4_greatestPosition_1 : decode cX4_greatestPosition 1 = .ok (.getfield 15, 3) := by decide +kernel
theorem dX4_greatestPosition_4 : decode cX4_greatestPosition 4 = .ok (.iconst 3, 1) := by decide +kernel
theorem dX4_greatestPosition_5 : decode cX4_greatestPosition 5 = .ok (.if_icmp .ge 10, 3) := by decide +kernel
theorem dX4_greatestPosition_8 : decode cX4_greatestPosition 8 = .ok (.aload_n 0, 1) := by decide +kernel
theorem dX4_greatestPosition_9 : decode cX4_greatestPosition 9 = .ok (.getfield 15, 3) := by decide +kernel
theorem dX4_greatestPosition_12 : decode cX4_greatestPosition 12 = .ok (.iconst 1, 1) := by decide +kernel
theorem dX4_greatestPosition_13 : decode cX4_greatestPosition 13 = .ok (.isub, 1) := by decide +kernel
theorem dX4_greatestPosition_14 : decode cX4_greatestPosition 14 = .ok (.ireturn, 1) := by decide +kernel
theorem dX4_greatestPosition_15 : decode cX4_greatestPosition 15 = .ok (.aload_n 0, 1) := by decide +kernel
theorem dX4_greatestPosition_16 : decode cX4_greatestPosition 16 = .ok (.iconst 1, 1) := by decide +kernel
theorem dX4_greatestPosition_17 : decode cX4_greatestPosition 17 = .ok (.invokevirtual 19, 3) := by decide +kernel
theorem dX4_greatestPosition_20 : decode cX4_greatestPosition 20 = .ok (.aload_n 0, 1) := by decide +kernel
theorem dX4_greatestPosition_21 : decode cX4_greatestPosition 21 = .ok (.iconst 2, 1) := by decide +kernel
theorem dX4_greatestPosition_22 : decode cX4_greatestPosition 22 = .ok (.invokevirtual 19, 3) := by decide +kernel
theorem dX4_greatestPosition_25 : decode cX4_greatestPosition 25 = .ok (.if_icmp .ge 7, 3) := by decide +kernel
theorem dX4_greatestPosition_28 : decode cX4_greatestPosition 28 = .ok (.iconst 2, 1) := by decide +kernel
theorem dX4_greatestPosition_29 : decode cX4_greatestPosition 29 = .ok (.goto 4, 3) := by decide +kernel
theorem dX4_greatestPosition_32 : decode cX4_greatestPosition 32 = .ok (.iconst 1, 1) := by decide +kernel
theorem dX4_greatestPosition_33 : decode cX4_greatestPosition 33 = .ok (.ireturn, 1) := by decide +kernel
theorem dX4_countFindingGreatest_0 : decode cX4_countFindingGreatest 0 = .ok (.aload_n 0, 1) := by decide +kernel
theorem dX4_countFindingGreatest_1 : decode cX4_countFindingGreatest 1 = .ok (.getfield 15, 3) := by decide +kernel
theorem dX4_countFindingGreatest_4 : decode cX4_countFindingGreatest 4 = .ok (.iconst 3, 1) := by decide +kernel
theorem dX4_countFindingGreatest_5 : decode cX4_countFindingGreatest 5 = .ok (.if_icmp .lt 13, 3) := by decide +kernel
theorem dX4_countFindingGreatest_8 : decode cX4_countFindingGreatest 8 = .ok (.aload_n 0, 1) := by decide +kernel
theorem dX4_countFindingGreatest_9 : decode cX4_countFindingGreatest 9 = .ok (.dup, 1) := by decide +kernel
theorem dX4_countFindingGreatest_10 : decode cX4_countFindingGreatest 10 = .ok (.getfield 22, 3) := by decide +kernel
theorem dX4_countFindingGreatest_13 : decode cX4_countFindingGreatest 13 = .ok (.iconst 1, 1) := by decide +kernel
theorem dX4_countFindingGreatest_14 : decode cX4_countFindingGreatest 14 = .ok (.iadd, 1) := by decide +kernel
theorem dX4_countFindingGreatest_15 : decode cX4_countFindingGreatest 15 = .ok (.putfield 22, 3) := by decide +kernel
theorem dX4_countFindingGreatest_18 : decode cX4_countFindingGreatest 18 = .ok (.return_, 1) := by decide +kernel
theorem dX4_rise_0 : decode cX4_rise 0 = .ok (.iload_n 1, 1) := by decide +kernel
theorem dX4_rise_1 : decode cX4_rise 1 = .ok (.istore_n 3, 1) := by decide +kernel
theorem dX4_rise_2 : decode cX4_rise 2 = .ok (.iload_n 3, 1) := by decide +kernel
theorem dX4_rise_3 : decode cX4_rise 3 = .ok (.iconst 2, 1) := by decide +kernel
theorem dX4_rise_4 : decode cX4_rise 4 = .ok (.if_icmp .le 38, 3) := by decide +kernel
theorem dX4_rise_7 : decode cX4_rise 7 = .ok (.iload_n 3, 1) := by decide +kernel
theorem dX4_rise_8 : decode cX4_rise 8 = .ok (.iconst 3, 1) := by decide +kernel
theorem dX4_rise_9 : decode cX4_rise 9 = .ok (.isub, 1) := by decide +kernel
theorem dX4_rise_10 : decode cX4_rise 10 = .ok (.iconst 4, 1) := by decide +kernel
theorem dX4_rise_11 : decode cX4_rise 11 = .ok (.idiv, 1) := by decide +kernel
theorem dX4_rise_12 : decode cX4_rise 12 = .ok (.istore 4, 2) := by decide +kernel
theorem dX4_rise_14 : decode cX4_rise 14 = .ok (.aload_n 0, 1) := by decide +kernel
theorem dX4_rise_15 : decode cX4_rise 15 = .ok (.iload_n 3, 1) := by decide +kernel
theorem dX4_rise_16 : decode cX4_rise 16 = .ok (.iload 4, 2) := by decide +kernel
theorem dX4_rise_18 : decode cX4_rise 18 = .ok (.iload_n 2, 1) := by decide +kernel
theorem dX4_rise_19 : decode cX4_rise 19 = .ok (.invokevirtual 25, 3) := by decide +kernel
theorem dX4_rise_22 : decode cX4_rise 22 = .ok (.ifCond .ne 4, 3) := by decide +kernel
theorem dX4_rise_25 : decode cX4_rise 25 = .ok (.return_, 1) := by decide +kernel
theorem dX4_rise_26 : decode cX4_rise 26 = .ok (.aload_n 0, 1) := by decide +kernel
theorem dX4_rise_27 : decode cX4_rise 27 = .ok (.iload_n 3, 1) := by decide +kernel
theorem dX4_rise_28 : decode cX4_rise 28 = .ok (.iload 4, 2) := by decide +kernel
theorem dX4_rise_30 : decode cX4_rise 30 = .ok (.invokevirtual 29, 3) := by decide +kernel
theorem dX4_rise_33 : decode cX4_rise 33 = .ok (.iload_n 3, 1) := by decide +kernel
theorem dX4_rise_34 : decode cX4_rise 34 = .ok (.iconst 3, 1) := by decide +kernel
theorem dX4_rise_35 : decode cX4_rise 35 = .ok (.isub, 1) := by decide +kernel
theorem dX4_rise_36 : decode cX4_rise 36 = .ok (.iconst 4, 1) := by decide +kernel
theorem dX4_rise_37 : decode cX4_rise 37 = .ok (.idiv, 1) := by decide +kernel
theorem dX4_rise_38 : decode cX4_rise 38 = .ok (.istore_n 3, 1) := by decide +kernel
theorem dX4_rise_39 : decode cX4_rise 39 = .ok (.goto (-37), 3) := by decide +kernel
theorem dX4_rise_42 : decode cX4_rise 42 = .ok (.return_, 1) := by decide +kernel
theorem dX4_foremostBelow_0 : decode cX4_foremostBelow 0 = .ok (.iconst 2, 1) := by decide +kernel
theorem dX4_foremostBelow_1 : decode cX4_foremostBelow 1 = .ok (.iload_n 1, 1) := by decide +kernel
theorem dX4_foremostBelow_2 : decode cX4_foremostBelow 2 = .ok (.imul, 1) := by decide +kernel
theorem dX4_foremostBelow_3 : decode cX4_foremostBelow 3 = .ok (.iconst 1, 1) := by decide +kernel
theorem dX4_foremostBelow_4 : decode cX4_foremostBelow 4 = .ok (.iadd, 1) := by decide +kernel
theorem dX4_foremostBelow_5 : decode cX4_foremostBelow 5 = .ok (.istore_n 3, 1) := by decide +kernel
theorem dX4_foremostBelow_6 : decode cX4_foremostBelow 6 = .ok (.iload_n 3, 1) := by decide +kernel
theorem dX4_foremostBelow_7 : decode cX4_foremostBelow 7 = .ok (.aload_n 0, 1) := by decide +kernel
theorem dX4_foremostBelow_8 : decode cX4_foremostBelow 8 = .ok (.getfield 15, 3) := by decide +kernel
theorem dX4_foremostBelow_11 : decode cX4_foremostBelow 11 = .ok (.if_icmp .lt 5, 3) := by decide +kernel
theorem dX4_foremostBelow_14 : decode cX4_foremostBelow 14 = .ok (.iconst (-1), 1) := by decide +kernel
theorem dX4_foremostBelow_15 : decode cX4_foremostBelow 15 = .ok (.ireturn, 1) := by decide +kernel
theorem dX4_foremostBelow_16 : decode cX4_foremostBelow 16 = .ok (.iconst 1, 1) := by decide +kernel
theorem dX4_foremostBelow_17 : decode cX4_foremostBelow 17 = .ok (.istore 4, 2) := by decide +kernel
theorem dX4_foremostBelow_19 : decode cX4_foremostBelow 19 = .ok (.iload 4, 2) := by decide +kernel
theorem dX4_foremostBelow_21 : decode cX4_foremostBelow 21 = .ok (.iconst 5, 1) := by decide +kernel
theorem dX4_foremostBelow_22 : decode cX4_foremostBelow 22 = .ok (.if_icmp .gt 56, 3) := by decide +kernel
theorem dX4_foremostBelow_25 : decode cX4_foremostBelow 25 = .ok (.iload 4, 2) := by decide +kernel
theorem dX4_foremostBelow_27 : decode cX4_foremostBelow 27 = .ok (.iconst 1, 1) := by decide +kernel
theorem dX4_foremostBelow_28 : decode cX4_foremostBelow 28 = .ok (.if_icmp .ne 11, 3) := by decide +kernel
theorem dX4_foremostBelow_31 : decode cX4_foremostBelow 31 = .ok (.iconst 2, 1) := by decide +kernel
theorem dX4_foremostBelow_32 : decode cX4_foremostBelow 32 = .ok (.iload_n 1, 1) := by decide +kernel
theorem dX4_foremostBelow_33 : decode cX4_foremostBelow 33 = .ok (.imul, 1) := by decide +kernel
theorem dX4_foremostBelow_34 : decode cX4_foremostBelow 34 = .ok (.iconst 2, 1) := by decide +kernel
theorem dX4_foremostBelow_35 : decode cX4_foremostBelow 35 = .ok (.iadd, 1) := by decide +kernel
theorem dX4_foremostBelow_36 : decode cX4_foremostBelow 36 = .ok (.goto 11, 3) := by decide +kernel
theorem dX4_foremostBelow_39 : decode cX4_foremostBelow 39 = .ok (.iconst 4, 1) := by decide +kernel
theorem dX4_foremostBelow_40 : decode cX4_foremostBelow 40 = .ok (.iload_n 1, 1) := by decide +kernel
theorem dX4_foremostBelow_41 : decode cX4_foremostBelow 41 = .ok (.imul, 1) := by decide +kernel
theorem dX4_foremostBelow_42 : decode cX4_foremostBelow 42 = .ok (.iconst 1, 1) := by decide +kernel
theorem dX4_foremostBelow_43 : decode cX4_foremostBelow 43 = .ok (.iadd, 1) := by decide +kernel
theorem dX4_foremostBelow_44 : decode cX4_foremostBelow 44 = .ok (.iload 4, 2) := by decide +kernel
theorem dX4_foremostBelow_46 : decode cX4_foremostBelow 46 = .ok (.iadd, 1) := by decide +kernel
theorem dX4_foremostBelow_47 : decode cX4_foremostBelow 47 = .ok (.istore 5, 2) := by decide +kernel
theorem dX4_foremostBelow_49 : decode cX4_foremostBelow 49 = .ok (.iload 5, 2) := by decide +kernel
theorem dX4_foremostBelow_51 : decode cX4_foremostBelow 51 = .ok (.aload_n 0, 1) := by decide +kernel
theorem dX4_foremostBelow_52 : decode cX4_foremostBelow 52 = .ok (.getfield 15, 3) := by decide +kernel
theorem dX4_foremostBelow_55 : decode cX4_foremostBelow 55 = .ok (.if_icmp .ge 17, 3) := by decide +kernel
theorem dX4_foremostBelow_58 : decode cX4_foremostBelow 58 = .ok (.aload_n 0, 1) := by decide +kernel
theorem dX4_foremostBelow_59 : decode cX4_foremostBelow 59 = .ok (.iload 5, 2) := by decide +kernel
theorem dX4_foremostBelow_61 : decode cX4_foremostBelow 61 = .ok (.iload_n 3, 1) := by decide +kernel
theorem dX4_foremostBelow_62 : decode cX4_foremostBelow 62 = .ok (.iload_n 2, 1) := by decide +kernel
theorem dX4_foremostBelow_63 : decode cX4_foremostBelow 63 = .ok (.invokevirtual 25, 3) := by decide +kernel
theorem dX4_foremostBelow_66 : decode cX4_foremostBelow 66 = .ok (.ifCond .eq 6, 3) := by decide +kernel
theorem dX4_foremostBelow_69 : decode cX4_foremostBelow 69 = .ok (.iload 5, 2) := by decide +kernel
theorem dX4_foremostBelow_71 : decode cX4_foremostBelow 71 = .ok (.istore_n 3, 1) := by decide +kernel
theorem dX4_foremostBelow_72 : decode cX4_foremostBelow 72 = .ok (.iinc 4 1, 3) := by decide +kernel
theorem dX4_foremostBelow_75 : decode cX4_foremostBelow 75 = .ok (.goto (-56), 3) := by decide +kernel
theorem dX4_foremostBelow_78 : decode cX4_foremostBelow 78 = .ok (.iload_n 3, 1) := by decide +kernel
theorem dX4_foremostBelow_79 : decode cX4_foremostBelow 79 = .ok (.ireturn, 1) := by decide +kernel
theorem dX4_sink_0 : decode cX4_sink 0 = .ok (.iload_n 1, 1) := by decide +kernel
theorem dX4_sink_1 : decode cX4_sink 1 = .ok (.invokestatic 33, 3) := by decide +kernel
theorem dX4_sink_4 : decode cX4_sink 4 = .ok (.istore_n 2, 1) := by decide +kernel
theorem dX4_sink_5 : decode cX4_sink 5 = .ok (.iload_n 1, 1) := by decide +kernel
theorem dX4_sink_6 : decode cX4_sink 6 = .ok (.istore_n 3, 1) := by decide +kernel
theorem dX4_sink_7 : decode cX4_sink 7 = .ok (.iconst 0, 1) := by decide +kernel
theorem dX4_sink_8 : decode cX4_sink 8 = .ok (.istore 4, 2) := by decide +kernel
theorem dX4_sink_10 : decode cX4_sink 10 = .ok (.iload 4, 2) := by decide +kernel
theorem dX4_sink_12 : decode cX4_sink 12 = .ok (.bipush 30, 2) := by decide +kernel
theorem dX4_sink_14 : decode cX4_sink 14 = .ok (.if_icmp .ge 79, 3) := by decide +kernel
theorem dX4_sink_17 : decode cX4_sink 17 = .ok (.aload_n 0, 1) := by decide +kernel
theorem dX4_sink_18 : decode cX4_sink 18 = .ok (.iload_n 3, 1) := by decide +kernel
theorem dX4_sink_19 : decode cX4_sink 19 = .ok (.iload_n 2, 1) := by decide +kernel
theorem dX4_sink_20 : decode cX4_sink 20 = .ok (.invokevirtual 37, 3) := by decide +kernel
theorem dX4_sink_23 : decode cX4_sink 23 = .ok (.istore 5, 2) := by decide +kernel
theorem dX4_sink_25 : decode cX4_sink 25 = .ok (.iload 5, 2) := by decide +kernel
theorem dX4_sink_27 : decode cX4_sink 27 = .ok (.iconst (-1), 1) := by decide +kernel
theorem dX4_sink_28 : decode cX4_sink 28 = .ok (.if_icmp .eq 14, 3) := by decide +kernel
theorem dX4_sink_31 : decode cX4_sink 31 = .ok (.aload_n 0, 1) := by decide +kernel
theorem dX4_sink_32 : decode cX4_sink 32 = .ok (.iload 5, 2) := by decide +kernel
theorem dX4_sink_34 : decode cX4_sink 34 = .ok (.iload_n 3, 1) := by decide +kernel
theorem dX4_sink_35 : decode cX4_sink 35 = .ok (.iload_n 2, 1) := by decide +kernel
theorem dX4_sink_36 : decode cX4_sink 36 = .ok (.invokevirtual 25, 3) := by decide +kernel
theorem dX4_sink_39 : decode cX4_sink 39 = .ok (.ifCond .ne 4, 3) := by decide +kernel
theorem dX4_sink_42 : decode cX4_sink 42 = .ok (.return_, 1) := by decide +kernel
theorem dX4_sink_43 : decode cX4_sink 43 = .ok (.aload_n 0, 1) := by decide +kernel
theorem dX4_sink_44 : decode cX4_sink 44 = .ok (.iload 5, 2) := by decide +kernel
theorem dX4_sink_46 : decode cX4_sink 46 = .ok (.iload_n 3, 1) := by decide +kernel
theorem dX4_sink_47 : decode cX4_sink 47 = .ok (.invokevirtual 29, 3) := by decide +kernel
theorem dX4_sink_50 : decode cX4_sink 50 = .ok (.iload 5, 2) := by decide +kernel
theorem dX4_sink_52 : decode cX4_sink 52 = .ok (.invokestatic 41, 3) := by decide +kernel
theorem dX4_sink_55 : decode cX4_sink 55 = .ok (.istore 6, 2) := by decide +kernel
theorem dX4_sink_57 : decode cX4_sink 57 = .ok (.iload 6, 2) := by decide +kernel
theorem dX4_sink_59 : decode cX4_sink 59 = .ok (.iload_n 3, 1) := by decide +kernel
theorem dX4_sink_60 : decode cX4_sink 60 = .ok (.if_icmp .ne 4, 3) := by decide +kernel
theorem dX4_sink_63 : decode cX4_sink 63 = .ok (.return_, 1) := by decide +kernel
theorem dX4_sink_64 : decode cX4_sink 64 = .ok (.aload_n 0, 1) := by decide +kernel
theorem dX4_sink_65 : decode cX4_sink 65 = .ok (.iload 6, 2) := by decide +kernel
theorem dX4_sink_67 : decode cX4_sink 67 = .ok (.iload 5, 2) := by decide +kernel
theorem dX4_sink_69 : decode cX4_sink 69 = .ok (.iload_n 2, 1) := by decide +kernel
theorem dX4_sink_70 : decode cX4_sink 70 = .ok (.invokevirtual 25, 3) := by decide +kernel
theorem dX4_sink_73 : decode cX4_sink 73 = .ok (.ifCond .eq 11, 3) := by decide +kernel
theorem dX4_sink_76 : decode cX4_sink 76 = .ok (.aload_n 0, 1) := by decide +kernel
theorem dX4_sink_77 : decode cX4_sink 77 = .ok (.iload 6, 2) := by decide +kernel
theorem dX4_sink_79 : decode cX4_sink 79 = .ok (.iload 5, 2) := by decide +kernel
theorem dX4_sink_81 : decode cX4_sink 81 = .ok (.invokevirtual 29, 3) := by decide +kernel
theorem dX4_sink_84 : decode cX4_sink 84 = .ok (.iload 5, 2) := by decide +kernel
theorem dX4_sink_86 : decode cX4_sink 86 = .ok (.istore_n 3, 1) := by decide +kernel
theorem dX4_sink_87 : decode cX4_sink 87 = .ok (.iinc 4 1, 3) := by decide +kernel
theorem dX4_sink_90 : decode cX4_sink 90 = .ok (.goto (-80), 3) := by decide +kernel
theorem dX4_sink_93 : decode cX4_sink 93 = .ok (.return_, 1) := by decide +kernel
theorem dX4_enter_0 : decode cX4_enter 0 = .ok (.iload_n 1, 1) := by decide +kernel
theorem dX4_enter_1 : decode cX4_enter 1 = .ok (.ifCond .ne 4, 3) := by decide +kernel
theorem dX4_enter_4 : decode cX4_enter 4 = .ok (.return_, 1) := by decide +kernel
theorem dX4_enter_5 : decode cX4_enter 5 = .ok (.iload_n 1, 1) := by decide +kernel
theorem dX4_enter_6 : decode cX4_enter 6 = .ok (.invokestatic 33, 3) := by decide +kernel
theorem dX4_enter_9 : decode cX4_enter 9 = .ok (.istore_n 2, 1) := by decide +kernel
theorem dX4_enter_10 : decode cX4_enter 10 = .ok (.iload_n 1, 1) := by decide +kernel
theorem dX4_enter_11 : decode cX4_enter 11 = .ok (.invokestatic 41, 3) := by decide +kernel
theorem dX4_enter_14 : decode cX4_enter 14 = .ok (.istore_n 3, 1) := by decide +kernel
theorem dX4_enter_15 : decode cX4_enter 15 = .ok (.aload_n 0, 1) := by decide +kernel
theorem dX4_enter_16 : decode cX4_enter 16 = .ok (.iload_n 3, 1) := by decide +kernel
theorem dX4_enter_17 : decode cX4_enter 17 = .ok (.iload_n 1, 1) := by decide +kernel
theorem dX4_enter_18 : decode cX4_enter 18 = .ok (.iload_n 2, 1) := by decide +kernel
theorem dX4_enter_19 : decode cX4_enter 19 = .ok (.invokevirtual 25, 3) := by decide +kernel
theorem dX4_enter_22 : decode cX4_enter 22 = .ok (.ifCond .eq 26, 3) := by decide +kernel
theorem dX4_enter_25 : decode cX4_enter 25 = .ok (.aload_n 0, 1) := by decide +kernel
theorem dX4_enter_26 : decode cX4_enter 26 = .ok (.iload_n 3, 1) := by decide +kernel
theorem dX4_enter_27 : decode cX4_enter 27 = .ok (.iload_n 1, 1) := by decide +kernel
theorem dX4_enter_28 : decode cX4_enter 28 = .ok (.invokevirtual 29, 3) := by decide +kernel
theorem dX4_enter_31 : decode cX4_enter 31 = .ok (.aload_n 0, 1) := by decide +kernel
theorem dX4_enter_32 : decode cX4_enter 32 = .ok (.iload_n 3, 1) := by decide +kernel
theorem dX4_enter_33 : decode cX4_enter 33 = .ok (.iload_n 2, 1) := by decide +kernel
theorem dX4_enter_34 : decode cX4_enter 34 = .ok (.ifCond .ne 7, 3) := by decide +kernel
theorem dX4_enter_37 : decode cX4_enter 37 = .ok (.iconst 1, 1) := by decide +kernel
theorem dX4_enter_38 : decode cX4_enter 38 = .ok (.goto 4, 3) := by decide +kernel
theorem dX4_enter_41 : decode cX4_enter 41 = .ok (.iconst 0, 1) := by decide +kernel
theorem dX4_enter_42 : decode cX4_enter 42 = .ok (.invokevirtual 44, 3) := by decide +kernel
theorem dX4_enter_45 : decode cX4_enter 45 = .ok (.goto 9, 3) := by decide +kernel
theorem dX4_enter_48 : decode cX4_enter 48 = .ok (.aload_n 0, 1) := by decide +kernel
theorem dX4_enter_49 : decode cX4_enter 49 = .ok (.iload_n 1, 1) := by decide +kernel
theorem dX4_enter_50 : decode cX4_enter 50 = .ok (.iload_n 2, 1) := by decide +kernel
theorem dX4_enter_51 : decode cX4_enter 51 = .ok (.invokevirtual 44, 3) := by decide +kernel
theorem dX4_enter_54 : decode cX4_enter 54 = .ok (.return_, 1) := by decide +kernel
theorem dX4_settle_0 : decode cX4_settle 0 = .ok (.aload_n 0, 1) := by decide +kernel
theorem dX4_settle_1 : decode cX4_settle 1 = .ok (.iload_n 1, 1) := by decide +kernel
theorem dX4_settle_2 : decode cX4_settle 2 = .ok (.invokevirtual 48, 3) := by decide +kernel
theorem dX4_settle_5 : decode cX4_settle 5 = .ok (.aload_n 0, 1) := by decide +kernel
theorem dX4_settle_6 : decode cX4_settle 6 = .ok (.iload_n 1, 1) := by decide +kernel
theorem dX4_settle_7 : decode cX4_settle 7 = .ok (.invokevirtual 52, 3) := by decide +kernel
theorem dX4_settle_10 : decode cX4_settle 10 = .ok (.return_, 1) := by decide +kernel
theorem dX4_settleAll_0 : decode cX4_settleAll 0 = .ok (.aload_n 0, 1) := by decide +kernel
theorem dX4_settleAll_1 : decode cX4_settleAll 1 = .ok (.getfield 15, 3) := by decide +kernel
theorem dX4_settleAll_4 : decode cX4_settleAll 4 = .ok (.iconst 1, 1) := by decide +kernel
theorem dX4_settleAll_5 : decode cX4_settleAll 5 = .ok (.isub, 1) := by decide +kernel
theorem dX4_settleAll_6 : decode cX4_settleAll 6 = .ok (.istore_n 1, 1) := by decide +kernel
theorem dX4_settleAll_7 : decode cX4_settleAll 7 = .ok (.iload_n 1, 1) := by decide +kernel
theorem dX4_settleAll_8 : decode cX4_settleAll 8 = .ok (.ifCond .lt 14, 3) := by decide +kernel
theorem dX4_settleAll_11 : decode cX4_settleAll 11 = .ok (.aload_n 0, 1) := by decide +kernel
theorem dX4_settleAll_12 : decode cX4_settleAll 12 = .ok (.iload_n 1, 1) := by decide +kernel
theorem dX4_settleAll_13 : decode cX4_settleAll 13 = .ok (.invokevirtual 52, 3) := by decide +kernel
theorem dX4_settleAll_16 : decode cX4_settleAll 16 = .ok (.iinc 1 (-1), 3) := by decide +kernel
theorem dX4_settleAll_19 : decode cX4_settleAll 19 = .ok (.goto (-12), 3) := by decide +kernel
theorem dX4_settleAll_22 : decode cX4_settleAll 22 = .ok (.return_, 1) := by decide +kernel
theorem dX4_brokenPairs_0 : decode cX4_brokenPairs 0 = .ok (.iconst 0, 1) := by decide +kernel
theorem dX4_brokenPairs_1 : decode cX4_brokenPairs 1 = .ok (.istore_n 1, 1) := by decide +kernel
theorem dX4_brokenPairs_2 : decode cX4_brokenPairs 2 = .ok (.iconst 1, 1) := by decide +kernel
theorem dX4_brokenPairs_3 : decode cX4_brokenPairs 3 = .ok (.istore_n 2, 1) := by decide +kernel
theorem dX4_brokenPairs_4 : decode cX4_brokenPairs 4 = .ok (.iload_n 2, 1) := by decide +kernel
theorem dX4_brokenPairs_5 : decode cX4_brokenPairs 5 = .ok (.aload_n 0, 1) := by decide +kernel
theorem dX4_brokenPairs_6 : decode cX4_brokenPairs 6 = .ok (.getfield 15, 3) := by decide +kernel
theorem dX4_brokenPairs_9 : decode cX4_brokenPairs 9 = .ok (.if_icmp .ge 78, 3) := by decide +kernel
theorem dX4_brokenPairs_12 : decode cX4_brokenPairs 12 = .ok (.iload_n 2, 1) := by decide +kernel
theorem dX4_brokenPairs_13 : decode cX4_brokenPairs 13 = .ok (.istore_n 3, 1) := by decide +kernel
theorem dX4_brokenPairs_14 : decode cX4_brokenPairs 14 = .ok (.iload_n 3, 1) := by decide +kernel
theorem dX4_brokenPairs_15 : decode cX4_brokenPairs 15 = .ok (.ifCond .le 66, 3) := by decide +kernel
theorem dX4_brokenPairs_18 : decode cX4_brokenPairs 18 = .ok (.iload_n 3, 1) := by decide +kernel
theorem dX4_brokenPairs_19 : decode cX4_brokenPairs 19 = .ok (.invokestatic 41, 3) := by decide +kernel
theorem dX4_brokenPairs_22 : decode cX4_brokenPairs 22 = .ok (.istore 4, 2) := by decide +kernel
theorem dX4_brokenPairs_24 : decode cX4_brokenPairs 24 = .ok (.iload 4, 2) := by decide +kernel
theorem dX4_brokenPairs_26 : decode cX4_brokenPairs 26 = .ok (.invokestatic 33, 3) := by decide +kernel
theorem dX4_brokenPairs_29 : decode cX4_brokenPairs 29 = .ok (.istore 5, 2) := by decide +kernel
theorem dX4_brokenPairs_31 : decode cX4_brokenPairs 31 = .ok (.iload 5, 2) := by decide +kernel
theorem dX4_brokenPairs_33 : decode cX4_brokenPairs 33 = .ok (.ifCond .eq 17, 3) := by decide +kernel
theorem dX4_brokenPairs_36 : decode cX4_brokenPairs 36 = .ok (.aload_n 0, 1) := by decide +kernel
theorem dX4_brokenPairs_37 : decode cX4_brokenPairs 37 = .ok (.iload_n 2, 1) := by decide +kernel
theorem dX4_brokenPairs_38 : decode cX4_brokenPairs 38 = .ok (.invokevirtual 19, 3) := by decide +kernel
theorem dX4_brokenPairs_41 : decode cX4_brokenPairs 41 = .ok (.aload_n 0, 1) := by decide +kernel
theorem dX4_brokenPairs_42 : decode cX4_brokenPairs 42 = .ok (.iload 4, 2) := by decide +kernel
theorem dX4_brokenPairs_44 : decode cX4_brokenPairs 44 = .ok (.invokevirtual 19, 3) := by decide +kernel
theorem dX4_brokenPairs_47 : decode cX4_brokenPairs 47 = .ok (.if_icmp .lt 22, 3) := by decide +kernel
theorem dX4_brokenPairs_50 : decode cX4_brokenPairs 50 = .ok (.iload 5, 2) := by decide +kernel
theorem dX4_brokenPairs_52 : decode cX4_brokenPairs 52 = .ok (.ifCond .ne 20, 3) := by decide +kernel
theorem dX4_brokenPairs_55 : decode cX4_brokenPairs 55 = .ok (.aload_n 0, 1) := by decide +kernel
theorem dX4_brokenPairs_56 : decode cX4_brokenPairs 56 = .ok (.iload 4, 2) := by decide +kernel
theorem dX4_brokenPairs_58 : decode cX4_brokenPairs 58 = .ok (.invokevirtual 19, 3) := by decide +kernel
theorem dX4_brokenPairs_61 : decode cX4_brokenPairs 61 = .ok (.aload_n 0, 1) := by decide +kernel
theorem dX4_brokenPairs_62 : decode cX4_brokenPairs 62 = .ok (.iload_n 2, 1) := by decide +kernel
theorem dX4_brokenPairs_63 : decode cX4_brokenPairs 63 = .ok (.invokevirtual 19, 3) := by decide +kernel
theorem dX4_brokenPairs_66 : decode cX4_brokenPairs 66 = .ok (.if_icmp .ge 6, 3) := by decide +kernel
theorem dX4_brokenPairs_69 : decode cX4_brokenPairs 69 = .ok (.iinc 1 1, 3) := by decide +kernel
theorem dX4_brokenPairs_72 : decode cX4_brokenPairs 72 = .ok (.iload_n 3, 1) := by decide +kernel
theorem dX4_brokenPairs_73 : decode cX4_brokenPairs 73 = .ok (.iconst 1, 1) := by decide +kernel
theorem dX4_brokenPairs_74 : decode cX4_brokenPairs 74 = .ok (.isub, 1) := by decide +kernel
theorem dX4_brokenPairs_75 : decode cX4_brokenPairs 75 = .ok (.iconst 2, 1) := by decide +kernel
theorem dX4_brokenPairs_76 : decode cX4_brokenPairs 76 = .ok (.idiv, 1) := by decide +kernel
theorem dX4_brokenPairs_77 : decode cX4_brokenPairs 77 = .ok (.istore_n 3, 1) := by decide +kernel
theorem dX4_brokenPairs_78 : decode cX4_brokenPairs 78 = .ok (.goto (-64), 3) := by decide +kernel
theorem dX4_brokenPairs_81 : decode cX4_brokenPairs 81 = .ok (.iinc 2 1, 3) := by decide +kernel
theorem dX4_brokenPairs_84 : decode cX4_brokenPairs 84 = .ok (.goto (-80), 3) := by decide +kernel
theorem dX4_brokenPairs_87 : decode cX4_brokenPairs 87 = .ok (.iload_n 1, 1) := by decide +kernel
theorem dX4_brokenPairs_88 : decode cX4_brokenPairs 88 = .ok (.ireturn, 1) := by decide +kernel
