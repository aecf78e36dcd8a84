theorem dX2_init_0 : decode cX2_init 0 = .ok (.aload_n 0, 1) := by decide +kernel
theorem dX2_init_1 : decode cX2_init 1 = .ok (.invokespecial 3, 3) := by decide +kernel
theorem dX2_init_4 : decode cX2_init 4 = .ok (.return_, 1) := by decide +kernel
theorem dX2_low_0 : decode cX2_low 0 = .ok (.iconst 2, 1) := by decide +kernel
theorem dX2_low_1 : decode cX2_low 1 = .ok (.iload_n 0, 1) := by decide +kernel
theorem dX2_low_2 : decode cX2_low 2 = .ok (.imul, 1) := by decide +kernel
theorem dX2_low_3 : decode cX2_low 3 = .ok (.ireturn, 1) := by decide +kernel
theorem dX2_high_0 : decode cX2_high 0 = .ok (.iconst 2, 1) := by decide +kernel
theorem dX2_high_1 : decode cX2_high 1 = .ok (.iload_n 0, 1) := by decide +kernel
theorem dX2_high_2 : decode cX2_high 2 = .ok (.imul, 1) := by decide +kernel
theorem dX2_high_3 : decode cX2_high 3 = .ok (.iconst 1, 1) := by decide +kernel
theorem dX2_high_4 : decode cX2_high 4 = .ok (.iadd, 1) := by decide +kernel
theorem dX2_high_5 : decode cX2_high 5 = .ok (.ireturn, 1) := by decide +kernel
theorem dX2_top_0 : decode cX2_top 0 = .ok (.iload_n 1, 1) := by decide +kernel
theorem dX2_top_1 : decode cX2_top 1 = .ok (.invokestatic 9, 3) := by decide +kernel
theorem dX2_top_4 : decode cX2_top 4 = .ok (.aload_n 0, 1) := by decide +kernel
theorem dX2_top_5 : decode cX2_top 5 = .ok (.getfield 15, 3) := by decide +kernel
theorem dX2_top_8 : decode cX2_top 8 = .ok (.if_icmp .ge 10, 3) := by decide +kernel
theorem dX2_top_11 : decode cX2_top 11 = .ok (.iload_n 1, 1) := by decide +kernel
theorem dX2_top_12 : decode cX2_top 12 = .ok (.invokestatic 9, 3) := by decide +kernel
theorem dX2_top_15 : decode cX2_top 15 = .ok (.goto 7, 3) := by decide +kernel
theorem dX2_top_18 : decode cX2_top 18 = .ok (.iload_n 1, 1) := by decide +kernel
theorem dX2_top_19 : decode cX2_top 19 = .ok (.invokestatic 19, 3) := by decide +kernel
theorem dX2_top_22 : decode cX2_top 22 = .ok (.ireturn, 1) := by decide +kernel
theorem dX2_greatestPosition_0 : decode cX2_greatestPosition 0 = .ok (.aload_n 0, 1) := by decide +kernel
theorem dX2_greatestPosition_1 : decode cX2_greatestPosition 1 = .ok (.iconst 0, 1) := by decide +kernel
theorem dX2_greatestPosition_2 : decode cX2_greatestPosition 2 = .ok (.invokevirtual 22, 3) := by decide +kernel
theorem dX2_greatestPosition_5 : decode cX2_greatestPosition 5 = .ok (.ireturn, 1) := by decide +kernel
theorem dX2_order_0 : decode cX2_order 0 = .ok (.iload_n 1, 1) := by decide +kernel
theorem dX2_order_1 : decode cX2_order 1 = .ok (.invokestatic 9, 3) := by decide +kernel
theorem dX2_order_4 : decode cX2_order 4 = .ok (.aload_n 0, 1) := by decide +kernel
theorem dX2_order_5 : decode cX2_order 5 = .ok (.getfield 15, 3) := by decide +kernel
theorem dX2_order_8 : decode cX2_order 8 = .ok (.if_icmp .ge 31, 3) := by decide +kernel
theorem dX2_order_11 : decode cX2_order 11 = .ok (.aload_n 0, 1) := by decide +kernel
theorem dX2_order_12 : decode cX2_order 12 = .ok (.iload_n 1, 1) := by decide +kernel
theorem dX2_order_13 : decode cX2_order 13 = .ok (.invokestatic 9, 3) := by decide +kernel
theorem dX2_order_16 : decode cX2_order 16 = .ok (.iload_n 1, 1) := by decide +kernel
theorem dX2_order_17 : decode cX2_order 17 = .ok (.invokestatic 19, 3) := by decide +kernel
theorem dX2_order_20 : decode cX2_order 20 = .ok (.iconst 1, 1) := by decide +kernel
theorem dX2_order_21 : decode cX2_order 21 = .ok (.invokevirtual 25, 3) := by decide +kernel
theorem dX2_order_24 : decode cX2_order 24 = .ok (.ifCond .eq 15, 3) := by decide +kernel
theorem dX2_order_27 : decode cX2_order 27 = .ok (.aload_n 0, 1) := by decide +kernel
theorem dX2_order_28 : decode cX2_order 28 = .ok (.iload_n 1, 1) := by decide +kernel
theorem dX2_order_29 : decode cX2_order 29 = .ok (.invokestatic 9, 3) := by decide +kernel
theorem dX2_order_32 : decode cX2_order 32 = .ok (.iload_n 1, 1) := by decide +kernel
theorem dX2_order_33 : decode cX2_order 33 = .ok (.invokestatic 19, 3) := by decide +kernel
theorem dX2_order_36 : decode cX2_order 36 = .ok (.invokevirtual 29, 3) := by decide +kernel
theorem dX2_order_39 : decode cX2_order 39 = .ok (.return_, 1) := by decide +kernel
theorem dX2_riseLow_0 : decode cX2_riseLow 0 = .ok (.iload_n 1, 1) := by decide +kernel
theorem dX2_riseLow_1 : decode cX2_riseLow 1 = .ok (.istore_n 2, 1) := by decide +kernel
theorem dX2_riseLow_2 : decode cX2_riseLow 2 = .ok (.iload_n 2, 1) := by decide +kernel
theorem dX2_riseLow_3 : decode cX2_riseLow 3 = .ok (.ifCond .le 43, 3) := by decide +kernel
theorem dX2_riseLow_6 : decode cX2_riseLow 6 = .ok (.iload_n 2, 1) := by decide +kernel
theorem dX2_riseLow_7 : decode cX2_riseLow 7 = .ok (.invokestatic 33, 3) := by decide +kernel
theorem dX2_riseLow_10 : decode cX2_riseLow 10 = .ok (.invokestatic 19, 3) := by decide +kernel
theorem dX2_riseLow_13 : decode cX2_riseLow 13 = .ok (.istore_n 3, 1) := by decide +kernel
theorem dX2_riseLow_14 : decode cX2_riseLow 14 = .ok (.aload_n 0, 1) := by decide +kernel
theorem dX2_riseLow_15 : decode cX2_riseLow 15 = .ok (.iload_n 2, 1) := by decide +kernel
theorem dX2_riseLow_16 : decode cX2_riseLow 16 = .ok (.invokestatic 19, 3) := by decide +kernel
theorem dX2_riseLow_19 : decode cX2_riseLow 19 = .ok (.iload_n 3, 1) := by decide +kernel
theorem dX2_riseLow_20 : decode cX2_riseLow 20 = .ok (.iconst 1, 1) := by decide +kernel
theorem dX2_riseLow_21 : decode cX2_riseLow 21 = .ok (.invokevirtual 25, 3) := by decide +kernel
theorem dX2_riseLow_24 : decode cX2_riseLow 24 = .ok (.ifCond .ne 4, 3) := by decide +kernel
theorem dX2_riseLow_27 : decode cX2_riseLow 27 = .ok (.return_, 1) := by decide +kernel
theorem dX2_riseLow_28 : decode cX2_riseLow 28 = .ok (.aload_n 0, 1) := by decide +kernel
theorem dX2_riseLow_29 : decode cX2_riseLow 29 = .ok (.iload_n 2, 1) := by decide +kernel
theorem dX2_riseLow_30 : decode cX2_riseLow 30 = .ok (.invokestatic 19, 3) := by decide +kernel
theorem dX2_riseLow_33 : decode cX2_riseLow 33 = .ok (.iload_n 3, 1) := by decide +kernel
theorem dX2_riseLow_34 : decode cX2_riseLow 34 = .ok (.invokevirtual 29, 3) := by decide +kernel
theorem dX2_riseLow_37 : decode cX2_riseLow 37 = .ok (.iload_n 2, 1) := by decide +kernel
theorem dX2_riseLow_38 : decode cX2_riseLow 38 = .ok (.iconst 1, 1) := by decide +kernel
theorem dX2_riseLow_39 : decode cX2_riseLow 39 = .ok (.isub, 1) := by decide +kernel
theorem dX2_riseLow_40 : decode cX2_riseLow 40 = .ok (.iconst 2, 1) := by decide +kernel
theorem dX2_riseLow_41 : decode cX2_riseLow 41 = .ok (.idiv, 1) := by decide +kernel
theorem dX2_riseLow_42 : decode cX2_riseLow 42 = .ok (.istore_n 2, 1) := by decide +kernel
theorem dX2_riseLow_43 : decode cX2_riseLow 43 = .ok (.goto (-41), 3) := by decide +kernel
theorem dX2_riseLow_46 : decode cX2_riseLow 46 = .ok (.return_, 1) := by decide +kernel
theorem dX2_riseHigh_0 : decode cX2_riseHigh 0 = .ok (.iload_n 2, 1) := by decide +kernel
theorem dX2_riseHigh_1 : decode cX2_riseHigh 1 = .ok (.istore_n 3, 1) := by decide +kernel
theorem dX2_riseHigh_2 : decode cX2_riseHigh 2 = .ok (.iload_n 1, 1) := by decide +kernel
theorem dX2_riseHigh_3 : decode cX2_riseHigh 3 = .ok (.istore 4, 2) := by decide +kernel
theorem dX2_riseHigh_5 : decode cX2_riseHigh 5 = .ok (.iload 4, 2) := by decide +kernel
theorem dX2_riseHigh_7 : decode cX2_riseHigh 7 = .ok (.ifCond .le 46, 3) := by decide +kernel
theorem dX2_riseHigh_10 : decode cX2_riseHigh 10 = .ok (.iload 4, 2) := by decide +kernel
theorem dX2_riseHigh_12 : decode cX2_riseHigh 12 = .ok (.invokestatic 33, 3) := by decide +kernel
theorem dX2_riseHigh_15 : decode cX2_riseHigh 15 = .ok (.invokestatic 9, 3) := by decide +kernel
theorem dX2_riseHigh_18 : decode cX2_riseHigh 18 = .ok (.istore 5, 2) := by decide +kernel
theorem dX2_riseHigh_20 : decode cX2_riseHigh 20 = .ok (.aload_n 0, 1) := by decide +kernel
theorem dX2_riseHigh_21 : decode cX2_riseHigh 21 = .ok (.iload 5, 2) := by decide +kernel
theorem dX2_riseHigh_23 : decode cX2_riseHigh 23 = .ok (.iload_n 3, 1) := by decide +kernel
theorem dX2_riseHigh_24 : decode cX2_riseHigh 24 = .ok (.iconst 1, 1) := by decide +kernel
theorem dX2_riseHigh_25 : decode cX2_riseHigh 25 = .ok (.invokevirtual 25, 3) := by decide +kernel
theorem dX2_riseHigh_28 : decode cX2_riseHigh 28 = .ok (.ifCond .ne 4, 3) := by decide +kernel
theorem dX2_riseHigh_31 : decode cX2_riseHigh 31 = .ok (.return_, 1) := by decide +kernel
theorem dX2_riseHigh_32 : decode cX2_riseHigh 32 = .ok (.aload_n 0, 1) := by decide +kernel
theorem dX2_riseHigh_33 : decode cX2_riseHigh 33 = .ok (.iload 5, 2) := by decide +kernel
theorem dX2_riseHigh_35 : decode cX2_riseHigh 35 = .ok (.iload_n 3, 1) := by decide +kernel
theorem dX2_riseHigh_36 : decode cX2_riseHigh 36 = .ok (.invokevirtual 29, 3) := by decide +kernel
theorem dX2_riseHigh_39 : decode cX2_riseHigh 39 = .ok (.iload 5, 2) := by decide +kernel
theorem dX2_riseHigh_41 : decode cX2_riseHigh 41 = .ok (.istore_n 3, 1) := by decide +kernel
theorem dX2_riseHigh_42 : decode cX2_riseHigh 42 = .ok (.iload 4, 2) := by decide +kernel
theorem dX2_riseHigh_44 : decode cX2_riseHigh 44 = .ok (.iconst 1, 1) := by decide +kernel
theorem dX2_riseHigh_45 : decode cX2_riseHigh 45 = .ok (.isub, 1) := by decide +kernel
theorem dX2_riseHigh_46 : decode cX2_riseHigh 46 = .ok (.iconst 2, 1) := by decide +kernel
theorem dX2_riseHigh_47 : decode cX2_riseHigh 47 = .ok (.idiv, 1) := by decide +kernel
theorem dX2_riseHigh_48 : decode cX2_riseHigh 48 = .ok (.istore 4, 2) := by decide +kernel
theorem dX2_riseHigh_50 : decode cX2_riseHigh 50 = .ok (.goto (-45), 3) := by decide +kernel
theorem dX2_riseHigh_53 : decode cX2_riseHigh 53 = .ok (.return_, 1) := by decide +kernel
theorem dX2_sinkLow_0 : decode cX2_sinkLow 0 = .ok (.iload_n 1, 1) := by decide +kernel
theorem dX2_sinkLow_1 : decode cX2_sinkLow 1 = .ok (.istore_n 2, 1) := by decide +kernel
theorem dX2_sinkLow_2 : decode cX2_sinkLow 2 = .ok (.iconst 0, 1) := by decide +kernel
theorem dX2_sinkLow_3 : decode cX2_sinkLow 3 = .ok (.istore_n 3, 1) := by decide +kernel
theorem dX2_sinkLow_4 : decode cX2_sinkLow 4 = .ok (.iload_n 3, 1) := by decide +kernel
theorem dX2_sinkLow_5 : decode cX2_sinkLow 5 = .ok (.bipush 30, 2) := by decide +kernel
theorem dX2_sinkLow_7 : decode cX2_sinkLow 7 = .ok (.if_icmp .ge 113, 3) := by decide +kernel
theorem dX2_sinkLow_10 : decode cX2_sinkLow 10 = .ok (.aload_n 0, 1) := by decide +kernel
theorem dX2_sinkLow_11 : decode cX2_sinkLow 11 = .ok (.iload_n 2, 1) := by decide +kernel
theorem dX2_sinkLow_12 : decode cX2_sinkLow 12 = .ok (.invokevirtual 36, 3) := by decide +kernel
theorem dX2_sinkLow_15 : decode cX2_sinkLow 15 = .ok (.iconst 2, 1) := by decide +kernel
theorem dX2_sinkLow_16 : decode cX2_sinkLow 16 = .ok (.iload_n 2, 1) := by decide +kernel
theorem dX2_sinkLow_17 : decode cX2_sinkLow 17 = .ok (.imul, 1) := by decide +kernel
theorem dX2_sinkLow_18 : decode cX2_sinkLow 18 = .ok (.iconst 1, 1) := by decide +kernel
theorem dX2_sinkLow_19 : decode cX2_sinkLow 19 = .ok (.iadd, 1) := by decide +kernel
theorem dX2_sinkLow_20 : decode cX2_sinkLow 20 = .ok (.istore 4, 2) := by decide +kernel
theorem dX2_sinkLow_22 : decode cX2_sinkLow 22 = .ok (.iload 4, 2) := by decide +kernel
theorem dX2_sinkLow_24 : decode cX2_sinkLow 24 = .ok (.iconst 1, 1) := by decide +kernel
theorem dX2_sinkLow_25 : decode cX2_sinkLow 25 = .ok (.iadd, 1) := by decide +kernel
theorem dX2_sinkLow_26 : decode cX2_sinkLow 26 = .ok (.istore 5, 2) := by decide +kernel
theorem dX2_sinkLow_28 : decode cX2_sinkLow 28 = .ok (.iload 4, 2) := by decide +kernel
theorem dX2_sinkLow_30 : decode cX2_sinkLow 30 = .ok (.invokestatic 19, 3) := by decide +kernel
theorem dX2_sinkLow_33 : decode cX2_sinkLow 33 = .ok (.aload_n 0, 1) := by decide +kernel
theorem dX2_sinkLow_34 : decode cX2_sinkLow 34 = .ok (.getfield 15, 3) := by decide +kernel
theorem dX2_sinkLow_37 : decode cX2_sinkLow 37 = .ok (.if_icmp .lt 4, 3) := by decide +kernel
theorem dX2_sinkLow_40 : decode cX2_sinkLow 40 = .ok (.return_, 1) := by decide +kernel
theorem dX2_sinkLow_41 : decode cX2_sinkLow 41 = .ok (.iload 5, 2) := by decide +kernel
theorem dX2_sinkLow_43 : decode cX2_sinkLow 43 = .ok (.invokestatic 19, 3) := by decide +kernel
theorem dX2_sinkLow_46 : decode cX2_sinkLow 46 = .ok (.aload_n 0, 1) := by decide +kernel
theorem dX2_sinkLow_47 : decode cX2_sinkLow 47 = .ok (.getfield 15, 3) := by decide +kernel
theorem dX2_sinkLow_50 : decode cX2_sinkLow 50 = .ok (.if_icmp .ge 26, 3) := by decide +kernel
theorem dX2_sinkLow_53 : decode cX2_sinkLow 53 = .ok (.aload_n 0, 1) := by decide +kernel
theorem dX2_sinkLow_54 : decode cX2_sinkLow 54 = .ok (.iload 5, 2) := by decide +kernel
theorem dX2_sinkLow_56 : decode cX2_sinkLow 56 = .ok (.invokestatic 19, 3) := by decide +kernel
theorem dX2_sinkLow_59 : decode cX2_sinkLow 59 = .ok (.iload 4, 2) := by decide +kernel
theorem dX2_sinkLow_61 : decode cX2_sinkLow 61 = .ok (.invokestatic 19, 3) := by decide +kernel
theorem dX2_sinkLow_64 : decode cX2_sinkLow 64 = .ok (.iconst 1, 1) := by decide +kernel
theorem dX2_sinkLow_65 : decode cX2_sinkLow 65 = .ok (.invokevirtual 25, 3) := by decide +kernel
theorem dX2_sinkLow_68 : decode cX2_sinkLow 68 = .ok (.ifCond .eq 8, 3) := by decide +kernel
theorem dX2_sinkLow_71 : decode cX2_sinkLow 71 = .ok (.iload 5, 2) := by decide +kernel
theorem dX2_sinkLow_73 : decode cX2_sinkLow 73 = .ok (.goto 5, 3) := by decide +kernel
theorem dX2_sinkLow_76 : decode cX2_sinkLow 76 = .ok (.iload 4, 2) := by decide +kernel
theorem dX2_sinkLow_78 : decode cX2_sinkLow 78 = .ok (.istore 6, 2) := by decide +kernel
theorem dX2_sinkLow_80 : decode cX2_sinkLow 80 = .ok (.aload_n 0, 1) := by decide +kernel
theorem dX2_sinkLow_81 : decode cX2_sinkLow 81 = .ok (.iload 6, 2) := by decide +kernel
theorem dX2_sinkLow_83 : decode cX2_sinkLow 83 = .ok (.invokestatic 19, 3) := by decide +kernel
theorem dX2_sinkLow_86 : decode cX2_sinkLow 86 = .ok (.iload_n 2, 1) := by decide +kernel
theorem dX2_sinkLow_87 : decode cX2_sinkLow 87 = .ok (.invokestatic 19, 3) := by decide +kernel
theorem dX2_sinkLow_90 : decode cX2_sinkLow 90 = .ok (.iconst 1, 1) := by decide +kernel
theorem dX2_sinkLow_91 : decode cX2_sinkLow 91 = .ok (.invokevirtual 25, 3) := by decide +kernel
theorem dX2_sinkLow_94 : decode cX2_sinkLow 94 = .ok (.ifCond .ne 4, 3) := by decide +kernel
theorem dX2_sinkLow_97 : decode cX2_sinkLow 97 = .ok (.return_, 1) := by decide +kernel
theorem dX2_sinkLow_98 : decode cX2_sinkLow 98 = .ok (.aload_n 0, 1) := by decide +kernel
theorem dX2_sinkLow_99 : decode cX2_sinkLow 99 = .ok (.iload 6, 2) := by decide +kernel
theorem dX2_sinkLow_101 : decode cX2_sinkLow 101 = .ok (.invokestatic 19, 3) := by decide +kernel
theorem dX2_sinkLow_104 : decode cX2_sinkLow 104 = .ok (.iload_n 2, 1) := by decide +kernel
theorem dX2_sinkLow_105 : decode cX2_sinkLow 105 = .ok (.invokestatic 19, 3) := by decide +kernel
theorem dX2_sinkLow_108 : decode cX2_sinkLow 108 = .ok (.invokevirtual 29, 3) := by decide +kernel
theorem dX2_sinkLow_111 : decode cX2_sinkLow 111 = .ok (.iload 6, 2) := by decide +kernel
theorem dX2_sinkLow_113 : decode cX2_sinkLow 113 = .ok (.istore_n 2, 1) := by decide +kernel
theorem dX2_sinkLow_114 : decode cX2_sinkLow 114 = .ok (.iinc 3 1, 3) := by decide +kernel
theorem dX2_sinkLow_117 : decode cX2_sinkLow 117 = .ok (.goto (-113), 3) := by decide +kernel
theorem dX2_sinkLow_120 : decode cX2_sinkLow 120 = .ok (.return_, 1) := by decide +kernel
theorem dX2_sinkHigh_0 : decode cX2_sinkHigh 0 = .ok (.iload_n 1, 1) := by decide +kernel
theorem dX2_sinkHigh_1 : decode cX2_sinkHigh 1 = .ok (.istore_n 2, 1) := by decide +kernel
theorem dX2_sinkHigh_2 : decode cX2_sinkHigh 2 = .ok (.iconst 0, 1) := by decide +kernel
theorem dX2_sinkHigh_3 : decode cX2_sinkHigh 3 = .ok (.istore_n 3, 1) := by decide +kernel
theorem dX2_sinkHigh_4 : decode cX2_sinkHigh 4 = .ok (.iload_n 3, 1) := by decide +kernel
theorem dX2_sinkHigh_5 : decode cX2_sinkHigh 5 = .ok (.bipush 30, 2) := by decide +kernel
theorem dX2_sinkHigh_7 : decode cX2_sinkHigh 7 = .ok (.if_icmp .ge 119, 3) := by decide +kernel
theorem dX2_sinkHigh_10 : decode cX2_sinkHigh 10 = .ok (.aload_n 0, 1) := by decide +kernel
theorem dX2_sinkHigh_11 : decode cX2_sinkHigh 11 = .ok (.iload_n 2, 1) := by decide +kernel
theorem dX2_sinkHigh_12 : decode cX2_sinkHigh 12 = .ok (.invokevirtual 36, 3) := by decide +kernel
theorem dX2_sinkHigh_15 : decode cX2_sinkHigh 15 = .ok (.iconst 2, 1) := by decide +kernel
theorem dX2_sinkHigh_16 : decode cX2_sinkHigh 16 = .ok (.iload_n 2, 1) := by decide +kernel
theorem dX2_sinkHigh_17 : decode cX2_sinkHigh 17 = .ok (.imul, 1) := by decide +kernel
theorem dX2_sinkHigh_18 : decode cX2_sinkHigh 18 = .ok (.iconst 1, 1) := by decide +kernel
theorem dX2_sinkHigh_19 : decode cX2_sinkHigh 19 = .ok (.iadd, 1) := by decide +kernel
theorem dX2_sinkHigh_20 : decode cX2_sinkHigh 20 = .ok (.istore 4, 2) := by decide +kernel
theorem dX2_sinkHigh_22 : decode cX2_sinkHigh 22 = .ok (.iload 4, 2) := by decide +kernel
theorem dX2_sinkHigh_24 : decode cX2_sinkHigh 24 = .ok (.iconst 1, 1) := by decide +kernel
theorem dX2_sinkHigh_25 : decode cX2_sinkHigh 25 = .ok (.iadd, 1) := by decide +kernel
theorem dX2_sinkHigh_26 : decode cX2_sinkHigh 26 = .ok (.istore 5, 2) := by decide +kernel
theorem dX2_sinkHigh_28 : decode cX2_sinkHigh 28 = .ok (.iload 4, 2) := by decide +kernel
theorem dX2_sinkHigh_30 : decode cX2_sinkHigh 30 = .ok (.invokestatic 19, 3) := by decide +kernel
theorem dX2_sinkHigh_33 : decode cX2_sinkHigh 33 = .ok (.aload_n 0, 1) := by decide +kernel
theorem dX2_sinkHigh_34 : decode cX2_sinkHigh 34 = .ok (.getfield 15, 3) := by decide +kernel
theorem dX2_sinkHigh_37 : decode cX2_sinkHigh 37 = .ok (.if_icmp .lt 4, 3) := by decide +kernel
theorem dX2_sinkHigh_40 : decode cX2_sinkHigh 40 = .ok (.return_, 1) := by decide +kernel
theorem dX2_sinkHigh_41 : decode cX2_sinkHigh 41 = .ok (.iload 5, 2) := by decide +kernel
theorem dX2_sinkHigh_43 : decode cX2_sinkHigh 43 = .ok (.invokestatic 19, 3) := by decide +kernel
theorem dX2_sinkHigh_46 : decode cX2_sinkHigh 46 = .ok (.aload_n 0, 1) := by decide +kernel
theorem dX2_sinkHigh_47 : decode cX2_sinkHigh 47 = .ok (.getfield 15, 3) := by decide +kernel
theorem dX2_sinkHigh_50 : decode cX2_sinkHigh 50 = .ok (.if_icmp .ge 28, 3) := by decide +kernel
theorem dX2_sinkHigh_53 : decode cX2_sinkHigh 53 = .ok (.aload_n 0, 1) := by decide +kernel
theorem dX2_sinkHigh_54 : decode cX2_sinkHigh 54 = .ok (.aload_n 0, 1) := by decide +kernel
theorem dX2_sinkHigh_55 : decode cX2_sinkHigh 55 = .ok (.iload 4, 2) := by decide +kernel
theorem dX2_sinkHigh_57 : decode cX2_sinkHigh 57 = .ok (.invokevirtual 22, 3) := by decide +kernel
theorem dX2_sinkHigh_60 : decode cX2_sinkHigh 60 = .ok (.aload_n 0, 1) := by decide +kernel
theorem dX2_sinkHigh_61 : decode cX2_sinkHigh 61 = .ok (.iload 5, 2) := by decide +kernel
theorem dX2_sinkHigh_63 : decode cX2_sinkHigh 63 = .ok (.invokevirtual 22, 3) := by decide +kernel
theorem dX2_sinkHigh_66 : decode cX2_sinkHigh 66 = .ok (.iconst 1, 1) := by decide +kernel
theorem dX2_sinkHigh_67 : decode cX2_sinkHigh 67 = .ok (.invokevirtual 25, 3) := by decide +kernel
theorem dX2_sinkHigh_70 : decode cX2_sinkHigh 70 = .ok (.ifCond .eq 8, 3) := by decide +kernel
theorem dX2_sinkHigh_73 : decode cX2_sinkHigh 73 = .ok (.iload 5, 2) := by decide +kernel
theorem dX2_sinkHigh_75 : decode cX2_sinkHigh 75 = .ok (.goto 5, 3) := by decide +kernel
theorem dX2_sinkHigh_78 : decode cX2_sinkHigh 78 = .ok (.iload 4, 2) := by decide +kernel
theorem dX2_sinkHigh_80 : decode cX2_sinkHigh 80 = .ok (.istore 6, 2) := by decide +kernel
theorem dX2_sinkHigh_82 : decode cX2_sinkHigh 82 = .ok (.aload_n 0, 1) := by decide +kernel
theorem dX2_sinkHigh_83 : decode cX2_sinkHigh 83 = .ok (.aload_n 0, 1) := by decide +kernel
theorem dX2_sinkHigh_84 : decode cX2_sinkHigh 84 = .ok (.iload_n 2, 1) := by decide +kernel
theorem dX2_sinkHigh_85 : decode cX2_sinkHigh 85 = .ok (.invokevirtual 22, 3) := by decide +kernel
theorem dX2_sinkHigh_88 : decode cX2_sinkHigh 88 = .ok (.aload_n 0, 1) := by decide +kernel
theorem dX2_sinkHigh_89 : decode cX2_sinkHigh 89 = .ok (.iload 6, 2) := by decide +kernel
theorem dX2_sinkHigh_91 : decode cX2_sinkHigh 91 = .ok (.invokevirtual 22, 3) := by decide +kernel
theorem dX2_sinkHigh_94 : decode cX2_sinkHigh 94 = .ok (.iconst 1, 1) := by decide +kernel
theorem dX2_sinkHigh_95 : decode cX2_sinkHigh 95 = .ok (.invokevirtual 25, 3) := by decide +kernel
theorem dX2_sinkHigh_98 : decode cX2_sinkHigh 98 = .ok (.ifCond .ne 4, 3) := by decide +kernel
theorem dX2_sinkHigh_101 : decode cX2_sinkHigh 101 = .ok (.return_, 1) := by decide +kernel
theorem dX2_sinkHigh_102 : decode cX2_sinkHigh 102 = .ok (.aload_n 0, 1) := by decide +kernel
theorem dX2_sinkHigh_103 : decode cX2_sinkHigh 103 = .ok (.aload_n 0, 1) := by decide +kernel
theorem dX2_sinkHigh_104 : decode cX2_sinkHigh 104 = .ok (.iload_n 2, 1) := by decide +kernel
theorem dX2_sinkHigh_105 : decode cX2_sinkHigh 105 = .ok (.invokevirtual 22, 3) := by decide +kernel
theorem dX2_sinkHigh_108 : decode cX2_sinkHigh 108 = .ok (.aload_n 0, 1) := by decide +kernel
theorem dX2_sinkHigh_109 : decode cX2_sinkHigh 109 = .ok (.iload 6, 2) := by decide +kernel
theorem dX2_sinkHigh_111 : decode cX2_sinkHigh 111 = .ok (.invokevirtual 22, 3) := by decide +kernel
theorem dX2_sinkHigh_114 : decode cX2_sinkHigh 114 = .ok (.invokevirtual 29, 3) := by decide +kernel
theorem dX2_sinkHigh_117 : decode cX2_sinkHigh 117 = .ok (.iload 6, 2) := by decide +kernel
theorem dX2_sinkHigh_119 : decode cX2_sinkHigh 119 = .ok (.istore_n 2, 1) := by decide +kernel
theorem dX2_sinkHigh_120 : decode cX2_sinkHigh 120 = .ok (.iinc 3 1, 3) := by decide +kernel
theorem dX2_sinkHigh_123 : decode cX2_sinkHigh 123 = .ok (.goto (-119), 3) := by decide +kernel
theorem dX2_sinkHigh_126 : decode cX2_sinkHigh 126 = .ok (.return_, 1) := by decide +kernel
theorem dX2_enter_0 : decode cX2_enter 0 = .ok (.iload_n 1, 1) := by decide +kernel
theorem dX2_enter_1 : decode cX2_enter 1 = .ok (.ifCond .ne 4, 3) := by decide +kernel
theorem dX2_enter_4 : decode cX2_enter 4 = .ok (.return_, 1) := by decide +kernel
theorem dX2_enter_5 : decode cX2_enter 5 = .ok (.iload_n 1, 1) := by decide +kernel
theorem dX2_enter_6 : decode cX2_enter 6 = .ok (.iconst 2, 1) := by decide +kernel
theorem dX2_enter_7 : decode cX2_enter 7 = .ok (.idiv, 1) := by decide +kernel
theorem dX2_enter_8 : decode cX2_enter 8 = .ok (.istore_n 2, 1) := by decide +kernel
theorem dX2_enter_9 : decode cX2_enter 9 = .ok (.iload_n 1, 1) := by decide +kernel
theorem dX2_enter_10 : decode cX2_enter 10 = .ok (.iload_n 2, 1) := by decide +kernel
theorem dX2_enter_11 : decode cX2_enter 11 = .ok (.invokestatic 9, 3) := by decide +kernel
theorem dX2_enter_14 : decode cX2_enter 14 = .ok (.if_icmp .ne 7, 3) := by decide +kernel
theorem dX2_enter_17 : decode cX2_enter 17 = .ok (.iconst 1, 1) := by decide +kernel
theorem dX2_enter_18 : decode cX2_enter 18 = .ok (.goto 4, 3) := by decide +kernel
theorem dX2_enter_21 : decode cX2_enter 21 = .ok (.iconst 0, 1) := by decide +kernel
theorem dX2_enter_22 : decode cX2_enter 22 = .ok (.istore_n 3, 1) := by decide +kernel
theorem dX2_enter_23 : decode cX2_enter 23 = .ok (.iload_n 3, 1) := by decide +kernel
theorem dX2_enter_24 : decode cX2_enter 24 = .ok (.ifCond .eq 10, 3) := by decide +kernel
theorem dX2_enter_27 : decode cX2_enter 27 = .ok (.iload_n 2, 1) := by decide +kernel
theorem dX2_enter_28 : decode cX2_enter 28 = .ok (.invokestatic 19, 3) := by decide +kernel
theorem dX2_enter_31 : decode cX2_enter 31 = .ok (.goto 10, 3) := by decide +kernel
theorem dX2_enter_34 : decode cX2_enter 34 = .ok (.iload_n 2, 1) := by decide +kernel
theorem dX2_enter_35 : decode cX2_enter 35 = .ok (.invokestatic 33, 3) := by decide +kernel
theorem dX2_enter_38 : decode cX2_enter 38 = .ok (.invokestatic 19, 3) := by decide +kernel
theorem dX2_enter_41 : decode cX2_enter 41 = .ok (.istore 4, 2) := by decide +kernel
theorem dX2_enter_43 : decode cX2_enter 43 = .ok (.aload_n 0, 1) := by decide +kernel
theorem dX2_enter_44 : decode cX2_enter 44 = .ok (.iload_n 1, 1) := by decide +kernel
theorem dX2_enter_45 : decode cX2_enter 45 = .ok (.iload 4, 2) := by decide +kernel
theorem dX2_enter_47 : decode cX2_enter 47 = .ok (.iconst 1, 1) := by decide +kernel
theorem dX2_enter_48 : decode cX2_enter 48 = .ok (.invokevirtual 25, 3) := by decide +kernel
theorem dX2_enter_51 : decode cX2_enter 51 = .ok (.ifCond .ne 10, 3) := by decide +kernel
theorem dX2_enter_54 : decode cX2_enter 54 = .ok (.aload_n 0, 1) := by decide +kernel
theorem dX2_enter_55 : decode cX2_enter 55 = .ok (.iload_n 2, 1) := by decide +kernel
theorem dX2_enter_56 : decode cX2_enter 56 = .ok (.iload_n 1, 1) := by decide +kernel
theorem dX2_enter_57 : decode cX2_enter 57 = .ok (.invokevirtual 40, 3) := by decide +kernel
theorem dX2_enter_60 : decode cX2_enter 60 = .ok (.return_, 1) := by decide +kernel
theorem dX2_enter_61 : decode cX2_enter 61 = .ok (.iload_n 3, 1) := by decide +kernel
theorem dX2_enter_62 : decode cX2_enter 62 = .ok (.ifCond .eq 10, 3) := by decide +kernel
theorem dX2_enter_65 : decode cX2_enter 65 = .ok (.aload_n 0, 1) := by decide +kernel
theorem dX2_enter_66 : decode cX2_enter 66 = .ok (.iload_n 1, 1) := by decide +kernel
theorem dX2_enter_67 : decode cX2_enter 67 = .ok (.iload 4, 2) := by decide +kernel
theorem dX2_enter_69 : decode cX2_enter 69 = .ok (.invokevirtual 29, 3) := by decide +kernel
theorem dX2_enter_72 : decode cX2_enter 72 = .ok (.aload_n 0, 1) := by decide +kernel
theorem dX2_enter_73 : decode cX2_enter 73 = .ok (.iload_n 2, 1) := by decide +kernel
theorem dX2_enter_74 : decode cX2_enter 74 = .ok (.invokevirtual 43, 3) := by decide +kernel
theorem dX2_enter_77 : decode cX2_enter 77 = .ok (.return_, 1) := by decide +kernel
theorem dX2_settle_0 : decode cX2_settle 0 = .ok (.iload_n 1, 1) := by decide +kernel
theorem dX2_settle_1 : decode cX2_settle 1 = .ok (.iconst 2, 1) := by decide +kernel
theorem dX2_settle_2 : decode cX2_settle 2 = .ok (.idiv, 1) := by decide +kernel
theorem dX2_settle_3 : decode cX2_settle 3 = .ok (.istore_n 2, 1) := by decide +kernel
theorem dX2_settle_4 : decode cX2_settle 4 = .ok (.aload_n 0, 1) := by decide +kernel
theorem dX2_settle_5 : decode cX2_settle 5 = .ok (.iload_n 2, 1) := by decide +kernel
theorem dX2_settle_6 : decode cX2_settle 6 = .ok (.invokevirtual 36, 3) := by decide +kernel
theorem dX2_settle_9 : decode cX2_settle 9 = .ok (.aload_n 0, 1) := by decide +kernel
theorem dX2_settle_10 : decode cX2_settle 10 = .ok (.iload_n 2, 1) := by decide +kernel
theorem dX2_settle_11 : decode cX2_settle 11 = .ok (.invokevirtual 43, 3) := by decide +kernel
theorem dX2_settle_14 : decode cX2_settle 14 = .ok (.aload_n 0, 1) := by decide +kernel
theorem dX2_settle_15 : decode cX2_settle 15 = .ok (.iload_n 2, 1) := by decide +kernel
theorem dX2_settle_16 : decode cX2_settle 16 = .ok (.aload_n 0, 1) := by decide +kernel
theorem dX2_settle_17 : decode cX2_settle 17 = .ok (.iload_n 2, 1) := by decide +kernel
theorem dX2_settle_18 : decode cX2_settle 18 = .ok (.invokevirtual 22, 3) := by decide +kernel
theorem dX2_settle_21 : decode cX2_settle 21 = .ok (.invokevirtual 40, 3) := by decide +kernel
theorem dX2_settle_24 : decode cX2_settle 24 = .ok (.aload_n 0, 1) := by decide +kernel
theorem dX2_settle_25 : decode cX2_settle 25 = .ok (.iload_n 2, 1) := by decide +kernel
theorem dX2_settle_26 : decode cX2_settle 26 = .ok (.invokevirtual 46, 3) := by decide +kernel
theorem dX2_settle_29 : decode cX2_settle 29 = .ok (.aload_n 0, 1) := by decide +kernel
theorem dX2_settle_30 : decode cX2_settle 30 = .ok (.iload_n 2, 1) := by decide +kernel
theorem dX2_settle_31 : decode cX2_settle 31 = .ok (.invokevirtual 49, 3) := by decide +kernel
theorem dX2_settle_34 : decode cX2_settle 34 = .ok (.return_, 1) := by decide +kernel
theorem dX2_settleAll_0 : decode cX2_settleAll 0 = .ok (.aload_n 0, 1) := by decide +kernel
theorem dX2_settleAll_1 : decode cX2_settleAll 1 = .ok (.getfield 15, 3) := by decide +kernel
theorem dX2_settleAll_4 : decode cX2_settleAll 4 = .ok (.iconst 1, 1) := by decide +kernel
theorem dX2_settleAll_5 : decode cX2_settleAll 5 = .ok (.iadd, 1) := by decide +kernel
theorem dX2_settleAll_6 : decode cX2_settleAll 6 = .ok (.iconst 2, 1) := by decide +kernel
theorem dX2_settleAll_7 : decode cX2_settleAll 7 = .ok (.idiv, 1) := by decide +kernel
theorem dX2_settleAll_8 : decode cX2_settleAll 8 = .ok (.iconst 1, 1) := by decide +kernel
theorem dX2_settleAll_9 : decode cX2_settleAll 9 = .ok (.isub, 1) := by decide +kernel
theorem dX2_settleAll_10 : decode cX2_settleAll 10 = .ok (.istore_n 1, 1) := by decide +kernel
theorem dX2_settleAll_11 : decode cX2_settleAll 11 = .ok (.iload_n 1, 1) := by decide +kernel
theorem dX2_settleAll_12 : decode cX2_settleAll 12 = .ok (.ifCond .lt 19, 3) := by decide +kernel
theorem dX2_settleAll_15 : decode cX2_settleAll 15 = .ok (.aload_n 0, 1) := by decide +kernel
theorem dX2_settleAll_16 : decode cX2_settleAll 16 = .ok (.iload_n 1, 1) := by decide +kernel
theorem dX2_settleAll_17 : decode cX2_settleAll 17 = .ok (.invokevirtual 46, 3) := by decide +kernel
theorem dX2_settleAll_20 : decode cX2_settleAll 20 = .ok (.aload_n 0, 1) := by decide +kernel
theorem dX2_settleAll_21 : decode cX2_settleAll 21 = .ok (.iload_n 1, 1) := by decide +kernel
theorem dX2_settleAll_22 : decode cX2_settleAll 22 = .ok (.invokevirtual 49, 3) := by decide +kernel
theorem dX2_settleAll_25 : decode cX2_settleAll 25 = .ok (.iinc 1 (-1), 3) := by decide +kernel
theorem dX2_settleAll_28 : decode cX2_settleAll 28 = .ok (.goto (-17), 3) := by decide +kernel
theorem dX2_settleAll_31 : decode cX2_settleAll 31 = .ok (.return_, 1) := by decide +kernel
theorem dX2_brokenPairs_0 : decode cX2_brokenPairs 0 = .ok (.iconst 0, 1) := by decide +kernel
theorem dX2_brokenPairs_1 : decode cX2_brokenPairs 1 = .ok (.istore_n 1, 1) := by decide +kernel
theorem dX2_brokenPairs_2 : decode cX2_brokenPairs 2 = .ok (.iconst 0, 1) := by decide +kernel
theorem dX2_brokenPairs_3 : decode cX2_brokenPairs 3 = .ok (.istore_n 2, 1) := by decide +kernel
theorem dX2_brokenPairs_4 : decode cX2_brokenPairs 4 = .ok (.iload_n 2, 1) := by decide +kernel
theorem dX2_brokenPairs_5 : decode cX2_brokenPairs 5 = .ok (.invokestatic 19, 3) := by decide +kernel
theorem dX2_brokenPairs_8 : decode cX2_brokenPairs 8 = .ok (.aload_n 0, 1) := by decide +kernel
theorem dX2_brokenPairs_9 : decode cX2_brokenPairs 9 = .ok (.getfield 15, 3) := by decide +kernel
theorem dX2_brokenPairs_12 : decode cX2_brokenPairs 12 = .ok (.if_icmp .ge 91, 3) := by decide +kernel
theorem dX2_brokenPairs_15 : decode cX2_brokenPairs 15 = .ok (.aload_n 0, 1) := by decide +kernel
theorem dX2_brokenPairs_16 : decode cX2_brokenPairs 16 = .ok (.aload_n 0, 1) := by decide +kernel
theorem dX2_brokenPairs_17 : decode cX2_brokenPairs 17 = .ok (.iload_n 2, 1) := by decide +kernel
theorem dX2_brokenPairs_18 : decode cX2_brokenPairs 18 = .ok (.invokevirtual 22, 3) := by decide +kernel
theorem dX2_brokenPairs_21 : decode cX2_brokenPairs 21 = .ok (.invokevirtual 52, 3) := by decide +kernel
theorem dX2_brokenPairs_24 : decode cX2_brokenPairs 24 = .ok (.aload_n 0, 1) := by decide +kernel
theorem dX2_brokenPairs_25 : decode cX2_brokenPairs 25 = .ok (.iload_n 2, 1) := by decide +kernel
theorem dX2_brokenPairs_26 : decode cX2_brokenPairs 26 = .ok (.invokestatic 19, 3) := by decide +kernel
theorem dX2_brokenPairs_29 : decode cX2_brokenPairs 29 = .ok (.invokevirtual 52, 3) := by decide +kernel
theorem dX2_brokenPairs_32 : decode cX2_brokenPairs 32 = .ok (.if_icmp .ge 6, 3) := by decide +kernel
theorem dX2_brokenPairs_35 : decode cX2_brokenPairs 35 = .ok (.iinc 1 1, 3) := by decide +kernel
theorem dX2_brokenPairs_38 : decode cX2_brokenPairs 38 = .ok (.iload_n 2, 1) := by decide +kernel
theorem dX2_brokenPairs_39 : decode cX2_brokenPairs 39 = .ok (.ifCond .le 28, 3) := by decide +kernel
theorem dX2_brokenPairs_42 : decode cX2_brokenPairs 42 = .ok (.aload_n 0, 1) := by decide +kernel
theorem dX2_brokenPairs_43 : decode cX2_brokenPairs 43 = .ok (.iload_n 2, 1) := by decide +kernel
theorem dX2_brokenPairs_44 : decode cX2_brokenPairs 44 = .ok (.invokestatic 19, 3) := by decide +kernel
theorem dX2_brokenPairs_47 : decode cX2_brokenPairs 47 = .ok (.invokevirtual 52, 3) := by decide +kernel
theorem dX2_brokenPairs_50 : decode cX2_brokenPairs 50 = .ok (.aload_n 0, 1) := by decide +kernel
theorem dX2_brokenPairs_51 : decode cX2_brokenPairs 51 = .ok (.iload_n 2, 1) := by decide +kernel
theorem dX2_brokenPairs_52 : decode cX2_brokenPairs 52 = .ok (.invokestatic 33, 3) := by decide +kernel
theorem dX2_brokenPairs_55 : decode cX2_brokenPairs 55 = .ok (.invokestatic 19, 3) := by decide +kernel
theorem dX2_brokenPairs_58 : decode cX2_brokenPairs 58 = .ok (.invokevirtual 52, 3) := by decide +kernel
theorem dX2_brokenPairs_61 : decode cX2_brokenPairs 61 = .ok (.if_icmp .ge 6, 3) := by decide +kernel
theorem dX2_brokenPairs_64 : decode cX2_brokenPairs 64 = .ok (.iinc 1 1, 3) := by decide +kernel
theorem dX2_brokenPairs_67 : decode cX2_brokenPairs 67 = .ok (.iload_n 2, 1) := by decide +kernel
theorem dX2_brokenPairs_68 : decode cX2_brokenPairs 68 = .ok (.ifCond .le 29, 3) := by decide +kernel
theorem dX2_brokenPairs_71 : decode cX2_brokenPairs 71 = .ok (.aload_n 0, 1) := by decide +kernel
theorem dX2_brokenPairs_72 : decode cX2_brokenPairs 72 = .ok (.iload_n 2, 1) := by decide +kernel
theorem dX2_brokenPairs_73 : decode cX2_brokenPairs 73 = .ok (.invokestatic 33, 3) := by decide +kernel
theorem dX2_brokenPairs_76 : decode cX2_brokenPairs 76 = .ok (.invokestatic 9, 3) := by decide +kernel
theorem dX2_brokenPairs_79 : decode cX2_brokenPairs 79 = .ok (.invokevirtual 52, 3) := by decide +kernel
theorem dX2_brokenPairs_82 : decode cX2_brokenPairs 82 = .ok (.aload_n 0, 1) := by decide +kernel
theorem dX2_brokenPairs_83 : decode cX2_brokenPairs 83 = .ok (.aload_n 0, 1) := by decide +kernel
theorem dX2_brokenPairs_84 : decode cX2_brokenPairs 84 = .ok (.iload_n 2, 1) := by decide +kernel
theorem dX2_brokenPairs_85 : decode cX2_brokenPairs 85 = .ok (.invokevirtual 22, 3) := by decide +kernel
theorem dX2_brokenPairs_88 : decode cX2_brokenPairs 88 = .ok (.invokevirtual 52, 3) := by decide +kernel
theorem dX2_brokenPairs_91 : decode cX2_brokenPairs 91 = .ok (.if_icmp .ge 6, 3) := by decide +kernel
theorem dX2_brokenPairs_94 : decode cX2_brokenPairs 94 = .ok (.iinc 1 1, 3) := by decide +kernel
theorem dX2_brokenPairs_97 : decode cX2_brokenPairs 97 = .ok (.iinc 2 1, 3) := by decide +kernel
theorem dX2_brokenPairs_100 : decode cX2_brokenPairs 100 = .ok (.goto (-96), 3) := by decide +kernel
theorem dX2_brokenPairs_103 : decode cX2_brokenPairs 103 = .ok (.iload_n 1, 1) := by decide +kernel
theorem dX2_brokenPairs_104 : decode cX2_brokenPairs 104 = .ok (.ireturn, 1) := by decide +kernel
