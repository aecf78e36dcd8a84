theorem dX0_init_0 : decode cX0_init 0 = .ok (.aload_n 0, 1) := by decide +kernel
theorem dX0_init_1 : decode cX0_init 1 = .ok (.invokespecial 3, 3) := by decide +kernel
theorem dX0_init_4 : decode cX0_init 4 = .ok (.aload_n 0, 1) := by decide +kernel
theorem dX0_init_5 : decode cX0_init 5 = .ok (.iload_n 1, 1) := by decide +kernel
theorem dX0_init_6 : decode cX0_init 6 = .ok (.putfield 9, 3) := by decide +kernel
theorem dX0_init_9 : decode cX0_init 9 = .ok (.return_, 1) := by decide +kernel
theorem dX0_handlesAbove_0 : decode cX0_handlesAbove 0 = .ok (.iconst 0, 1) := by decide +kernel
theorem dX0_handlesAbove_1 : decode cX0_handlesAbove 1 = .ok (.istore_n 2, 1) := by decide +kernel
theorem dX0_handlesAbove_2 : decode cX0_handlesAbove 2 = .ok (.aload_n 0, 1) := by decide +kernel
theorem dX0_handlesAbove_3 : decode cX0_handlesAbove 3 = .ok (.iload_n 1, 1) := by decide +kernel
theorem dX0_handlesAbove_4 : decode cX0_handlesAbove 4 = .ok (.invokevirtual 15, 3) := by decide +kernel
theorem dX0_handlesAbove_7 : decode cX0_handlesAbove 7 = .ok (.istore_n 3, 1) := by decide +kernel
theorem dX0_handlesAbove_8 : decode cX0_handlesAbove 8 = .ok (.iload_n 3, 1) := by decide +kernel
theorem dX0_handlesAbove_9 : decode cX0_handlesAbove 9 = .ok (.ifCond .le 25, 3) := by decide +kernel
theorem dX0_handlesAbove_12 : decode cX0_handlesAbove 12 = .ok (.iload_n 2, 1) := by decide +kernel
theorem dX0_handlesAbove_13 : decode cX0_handlesAbove 13 = .ok (.iconst 1, 1) := by decide +kernel
theorem dX0_handlesAbove_14 : decode cX0_handlesAbove 14 = .ok (.aload_n 0, 1) := by decide +kernel
theorem dX0_handlesAbove_15 : decode cX0_handlesAbove 15 = .ok (.iload_n 3, 1) := by decide +kernel
theorem dX0_handlesAbove_16 : decode cX0_handlesAbove 16 = .ok (.invokestatic 19, 3) := by decide +kernel
theorem dX0_handlesAbove_19 : decode cX0_handlesAbove 19 = .ok (.invokevirtual 22, 3) := by decide +kernel
theorem dX0_handlesAbove_22 : decode cX0_handlesAbove 22 = .ok (.ishl, 1) := by decide +kernel
theorem dX0_handlesAbove_23 : decode cX0_handlesAbove 23 = .ok (.ior, 1) := by decide +kernel
theorem dX0_handlesAbove_24 : decode cX0_handlesAbove 24 = .ok (.istore_n 2, 1) := by decide +kernel
theorem dX0_handlesAbove_25 : decode cX0_handlesAbove 25 = .ok (.iload_n 3, 1) := by decide +kernel
theorem dX0_handlesAbove_26 : decode cX0_handlesAbove 26 = .ok (.iconst 1, 1) := by decide +kernel
theorem dX0_handlesAbove_27 : decode cX0_handlesAbove 27 = .ok (.isub, 1) := by decide +kernel
theorem dX0_handlesAbove_28 : decode cX0_handlesAbove 28 = .ok (.iconst 2, 1) := by decide +kernel
theorem dX0_handlesAbove_29 : decode cX0_handlesAbove 29 = .ok (.idiv, 1) := by decide +kernel
theorem dX0_handlesAbove_30 : decode cX0_handlesAbove 30 = .ok (.istore_n 3, 1) := by decide +kernel
theorem dX0_handlesAbove_31 : decode cX0_handlesAbove 31 = .ok (.goto (-23), 3) := by decide +kernel
theorem dX0_handlesAbove_34 : decode cX0_handlesAbove 34 = .ok (.iload_n 2, 1) := by decide +kernel
theorem dX0_handlesAbove_35 : decode cX0_handlesAbove 35 = .ok (.ireturn, 1) := by decide +kernel
theorem dX0_down_0 : decode cX0_down 0 = .ok (.iload_n 1, 1) := by decide +kernel
theorem dX0_down_1 : decode cX0_down 1 = .ok (.istore_n 2, 1) := by decide +kernel
theorem dX0_down_2 : decode cX0_down 2 = .ok (.iconst 0, 1) := by decide +kernel
theorem dX0_down_3 : decode cX0_down 3 = .ok (.istore_n 3, 1) := by decide +kernel
theorem dX0_down_4 : decode cX0_down 4 = .ok (.iload_n 3, 1) := by decide +kernel
theorem dX0_down_5 : decode cX0_down 5 = .ok (.bipush 30, 2) := by decide +kernel
theorem dX0_down_7 : decode cX0_down 7 = .ok (.if_icmp .ge 90, 3) := by decide +kernel
theorem dX0_down_10 : decode cX0_down 10 = .ok (.iconst 2, 1) := by decide +kernel
theorem dX0_down_11 : decode cX0_down 11 = .ok (.iload_n 2, 1) := by decide +kernel
theorem dX0_down_12 : decode cX0_down 12 = .ok (.imul, 1) := by decide +kernel
theorem dX0_down_13 : decode cX0_down 13 = .ok (.iconst 1, 1) := by decide +kernel
theorem dX0_down_14 : decode cX0_down 14 = .ok (.iadd, 1) := by decide +kernel
theorem dX0_down_15 : decode cX0_down 15 = .ok (.istore 4, 2) := by decide +kernel
theorem dX0_down_17 : decode cX0_down 17 = .ok (.iload 4, 2) := by decide +kernel
theorem dX0_down_19 : decode cX0_down 19 = .ok (.iconst 1, 1) := by decide +kernel
theorem dX0_down_20 : decode cX0_down 20 = .ok (.iadd, 1) := by decide +kernel
theorem dX0_down_21 : decode cX0_down 21 = .ok (.istore 5, 2) := by decide +kernel
theorem dX0_down_23 : decode cX0_down 23 = .ok (.iload 4, 2) := by decide +kernel
theorem dX0_down_25 : decode cX0_down 25 = .ok (.aload_n 0, 1) := by decide +kernel
theorem dX0_down_26 : decode cX0_down 26 = .ok (.getfield 25, 3) := by decide +kernel
theorem dX0_down_29 : decode cX0_down 29 = .ok (.if_icmp .lt 4, 3) := by decide +kernel
theorem dX0_down_32 : decode cX0_down 32 = .ok (.return_, 1) := by decide +kernel
theorem dX0_down_33 : decode cX0_down 33 = .ok (.iload 5, 2) := by decide +kernel
theorem dX0_down_35 : decode cX0_down 35 = .ok (.aload_n 0, 1) := by decide +kernel
theorem dX0_down_36 : decode cX0_down 36 = .ok (.getfield 25, 3) := by decide +kernel
theorem dX0_down_39 : decode cX0_down 39 = .ok (.if_icmp .ge 23, 3) := by decide +kernel
theorem dX0_down_42 : decode cX0_down 42 = .ok (.aload_n 0, 1) := by decide +kernel
theorem dX0_down_43 : decode cX0_down 43 = .ok (.iload 5, 2) := by decide +kernel
theorem dX0_down_45 : decode cX0_down 45 = .ok (.iload 4, 2) := by decide +kernel
theorem dX0_down_47 : decode cX0_down 47 = .ok (.aload_n 0, 1) := by decide +kernel
theorem dX0_down_48 : decode cX0_down 48 = .ok (.getfield 9, 3) := by decide +kernel
theorem dX0_down_51 : decode cX0_down 51 = .ok (.invokevirtual 29, 3) := by decide +kernel
theorem dX0_down_54 : decode cX0_down 54 = .ok (.ifCond .eq 8, 3) := by decide +kernel
theorem dX0_down_57 : decode cX0_down 57 = .ok (.iload 5, 2) := by decide +kernel
theorem dX0_down_59 : decode cX0_down 59 = .ok (.goto 5, 3) := by decide +kernel
theorem dX0_down_62 : decode cX0_down 62 = .ok (.iload 4, 2) := by decide +kernel
theorem dX0_down_64 : decode cX0_down 64 = .ok (.istore 6, 2) := by decide +kernel
theorem dX0_down_66 : decode cX0_down 66 = .ok (.aload_n 0, 1) := by decide +kernel
theorem dX0_down_67 : decode cX0_down 67 = .ok (.iload 6, 2) := by decide +kernel
theorem dX0_down_69 : decode cX0_down 69 = .ok (.iload_n 2, 1) := by decide +kernel
theorem dX0_down_70 : decode cX0_down 70 = .ok (.aload_n 0, 1) := by decide +kernel
theorem dX0_down_71 : decode cX0_down 71 = .ok (.getfield 9, 3) := by decide +kernel
theorem dX0_down_74 : decode cX0_down 74 = .ok (.invokevirtual 29, 3) := by decide +kernel
theorem dX0_down_77 : decode cX0_down 77 = .ok (.ifCond .ne 4, 3) := by decide +kernel
theorem dX0_down_80 : decode cX0_down 80 = .ok (.return_, 1) := by decide +kernel
theorem dX0_down_81 : decode cX0_down 81 = .ok (.aload_n 0, 1) := by decide +kernel
theorem dX0_down_82 : decode cX0_down 82 = .ok (.iload 6, 2) := by decide +kernel
theorem dX0_down_84 : decode cX0_down 84 = .ok (.iload_n 2, 1) := by decide +kernel
theorem dX0_down_85 : decode cX0_down 85 = .ok (.invokevirtual 33, 3) := by decide +kernel
theorem dX0_down_88 : decode cX0_down 88 = .ok (.iload 6, 2) := by decide +kernel
theorem dX0_down_90 : decode cX0_down 90 = .ok (.istore_n 2, 1) := by decide +kernel
theorem dX0_down_91 : decode cX0_down 91 = .ok (.iinc 3 1, 3) := by decide +kernel
theorem dX0_down_94 : decode cX0_down 94 = .ok (.goto (-90), 3) := by decide +kernel
theorem dX0_down_97 : decode cX0_down 97 = .ok (.return_, 1) := by decide +kernel
theorem dX0_enter_0 : decode cX0_enter 0 = .ok (.iload_n 1, 1) := by decide +kernel
theorem dX0_enter_1 : decode cX0_enter 1 = .ok (.istore_n 2, 1) := by decide +kernel
theorem dX0_enter_2 : decode cX0_enter 2 = .ok (.iload_n 2, 1) := by decide +kernel
theorem dX0_enter_3 : decode cX0_enter 3 = .ok (.ifCond .le 38, 3) := by decide +kernel
theorem dX0_enter_6 : decode cX0_enter 6 = .ok (.aload_n 0, 1) := by decide +kernel
theorem dX0_enter_7 : decode cX0_enter 7 = .ok (.iload_n 2, 1) := by decide +kernel
theorem dX0_enter_8 : decode cX0_enter 8 = .ok (.iload_n 2, 1) := by decide +kernel
theorem dX0_enter_9 : decode cX0_enter 9 = .ok (.invokestatic 19, 3) := by decide +kernel
theorem dX0_enter_12 : decode cX0_enter 12 = .ok (.aload_n 0, 1) := by decide +kernel
theorem dX0_enter_13 : decode cX0_enter 13 = .ok (.getfield 9, 3) := by decide +kernel
theorem dX0_enter_16 : decode cX0_enter 16 = .ok (.invokevirtual 29, 3) := by decide +kernel
theorem dX0_enter_19 : decode cX0_enter 19 = .ok (.ifCond .ne 4, 3) := by decide +kernel
theorem dX0_enter_22 : decode cX0_enter 22 = .ok (.return_, 1) := by decide +kernel
theorem dX0_enter_23 : decode cX0_enter 23 = .ok (.aload_n 0, 1) := by decide +kernel
theorem dX0_enter_24 : decode cX0_enter 24 = .ok (.iload_n 2, 1) := by decide +kernel
theorem dX0_enter_25 : decode cX0_enter 25 = .ok (.iload_n 2, 1) := by decide +kernel
theorem dX0_enter_26 : decode cX0_enter 26 = .ok (.invokestatic 19, 3) := by decide +kernel
theorem dX0_enter_29 : decode cX0_enter 29 = .ok (.invokevirtual 33, 3) := by decide +kernel
theorem dX0_enter_32 : decode cX0_enter 32 = .ok (.iload_n 2, 1) := by decide +kernel
theorem dX0_enter_33 : decode cX0_enter 33 = .ok (.iconst 1, 1) := by decide +kernel
theorem dX0_enter_34 : decode cX0_enter 34 = .ok (.isub, 1) := by decide +kernel
theorem dX0_enter_35 : decode cX0_enter 35 = .ok (.iconst 2, 1) := by decide +kernel
theorem dX0_enter_36 : decode cX0_enter 36 = .ok (.idiv, 1) := by decide +kernel
theorem dX0_enter_37 : decode cX0_enter 37 = .ok (.istore_n 2, 1) := by decide +kernel
theorem dX0_enter_38 : decode cX0_enter 38 = .ok (.goto (-36), 3) := by decide +kernel
theorem dX0_enter_41 : decode cX0_enter 41 = .ok (.return_, 1) := by decide +kernel
theorem dX0_settle_0 : decode cX0_settle 0 = .ok (.aload_n 0, 1) := by decide +kernel
theorem dX0_settle_1 : decode cX0_settle 1 = .ok (.iload_n 1, 1) := by decide +kernel
theorem dX0_settle_2 : decode cX0_settle 2 = .ok (.invokevirtual 37, 3) := by decide +kernel
theorem dX0_settle_5 : decode cX0_settle 5 = .ok (.aload_n 0, 1) := by decide +kernel
theorem dX0_settle_6 : decode cX0_settle 6 = .ok (.iload_n 1, 1) := by decide +kernel
theorem dX0_settle_7 : decode cX0_settle 7 = .ok (.invokevirtual 41, 3) := by decide +kernel
theorem dX0_settle_10 : decode cX0_settle 10 = .ok (.return_, 1) := by decide +kernel
theorem dX0_settleAll_0 : decode cX0_settleAll 0 = .ok (.aload_n 0, 1) := by decide +kernel
theorem dX0_settleAll_1 : decode cX0_settleAll 1 = .ok (.getfield 25, 3) := by decide +kernel
theorem dX0_settleAll_4 : decode cX0_settleAll 4 = .ok (.iconst 1, 1) := by decide +kernel
theorem dX0_settleAll_5 : decode cX0_settleAll 5 = .ok (.isub, 1) := by decide +kernel
theorem dX0_settleAll_6 : decode cX0_settleAll 6 = .ok (.istore_n 1, 1) := by decide +kernel
theorem dX0_settleAll_7 : decode cX0_settleAll 7 = .ok (.iload_n 1, 1) := by decide +kernel
theorem dX0_settleAll_8 : decode cX0_settleAll 8 = .ok (.ifCond .lt 14, 3) := by decide +kernel
theorem dX0_settleAll_11 : decode cX0_settleAll 11 = .ok (.aload_n 0, 1) := by decide +kernel
theorem dX0_settleAll_12 : decode cX0_settleAll 12 = .ok (.iload_n 1, 1) := by decide +kernel
theorem dX0_settleAll_13 : decode cX0_settleAll 13 = .ok (.invokevirtual 41, 3) := by decide +kernel
theorem dX0_settleAll_16 : decode cX0_settleAll 16 = .ok (.iinc 1 (-1), 3) := by decide +kernel
theorem dX0_settleAll_19 : decode cX0_settleAll 19 = .ok (.goto (-12), 3) := by decide +kernel
theorem dX0_settleAll_22 : decode cX0_settleAll 22 = .ok (.return_, 1) := by decide +kernel
theorem dX0_brokenPairs_0 : decode cX0_brokenPairs 0 = .ok (.iconst 0, 1) := by decide +kernel
theorem dX0_brokenPairs_1 : decode cX0_brokenPairs 1 = .ok (.istore_n 1, 1) := by decide +kernel
theorem dX0_brokenPairs_2 : decode cX0_brokenPairs 2 = .ok (.iconst 1, 1) := by decide +kernel
theorem dX0_brokenPairs_3 : decode cX0_brokenPairs 3 = .ok (.istore_n 2, 1) := by decide +kernel
theorem dX0_brokenPairs_4 : decode cX0_brokenPairs 4 = .ok (.iload_n 2, 1) := by decide +kernel
theorem dX0_brokenPairs_5 : decode cX0_brokenPairs 5 = .ok (.aload_n 0, 1) := by decide +kernel
theorem dX0_brokenPairs_6 : decode cX0_brokenPairs 6 = .ok (.getfield 25, 3) := by decide +kernel
theorem dX0_brokenPairs_9 : decode cX0_brokenPairs 9 = .ok (.if_icmp .ge 59, 3) := by decide +kernel
theorem dX0_brokenPairs_12 : decode cX0_brokenPairs 12 = .ok (.aload_n 0, 1) := by decide +kernel
theorem dX0_brokenPairs_13 : decode cX0_brokenPairs 13 = .ok (.getfield 9, 3) := by decide +kernel
theorem dX0_brokenPairs_16 : decode cX0_brokenPairs 16 = .ok (.ifCond .eq 10, 3) := by decide +kernel
theorem dX0_brokenPairs_19 : decode cX0_brokenPairs 19 = .ok (.iload_n 2, 1) := by decide +kernel
theorem dX0_brokenPairs_20 : decode cX0_brokenPairs 20 = .ok (.invokestatic 19, 3) := by decide +kernel
theorem dX0_brokenPairs_23 : decode cX0_brokenPairs 23 = .ok (.goto 4, 3) := by decide +kernel
theorem dX0_brokenPairs_26 : decode cX0_brokenPairs 26 = .ok (.iload_n 2, 1) := by decide +kernel
theorem dX0_brokenPairs_27 : decode cX0_brokenPairs 27 = .ok (.istore_n 3, 1) := by decide +kernel
theorem dX0_brokenPairs_28 : decode cX0_brokenPairs 28 = .ok (.aload_n 0, 1) := by decide +kernel
theorem dX0_brokenPairs_29 : decode cX0_brokenPairs 29 = .ok (.getfield 9, 3) := by decide +kernel
theorem dX0_brokenPairs_32 : decode cX0_brokenPairs 32 = .ok (.ifCond .eq 7, 3) := by decide +kernel
theorem dX0_brokenPairs_35 : decode cX0_brokenPairs 35 = .ok (.iload_n 2, 1) := by decide +kernel
theorem dX0_brokenPairs_36 : decode cX0_brokenPairs 36 = .ok (.goto 7, 3) := by decide +kernel
theorem dX0_brokenPairs_39 : decode cX0_brokenPairs 39 = .ok (.iload_n 2, 1) := by decide +kernel
theorem dX0_brokenPairs_40 : decode cX0_brokenPairs 40 = .ok (.invokestatic 19, 3) := by decide +kernel
theorem dX0_brokenPairs_43 : decode cX0_brokenPairs 43 = .ok (.istore 4, 2) := by decide +kernel
theorem dX0_brokenPairs_45 : decode cX0_brokenPairs 45 = .ok (.aload_n 0, 1) := by decide +kernel
theorem dX0_brokenPairs_46 : decode cX0_brokenPairs 46 = .ok (.iload 4, 2) := by decide +kernel
theorem dX0_brokenPairs_48 : decode cX0_brokenPairs 48 = .ok (.invokevirtual 44, 3) := by decide +kernel
theorem dX0_brokenPairs_51 : decode cX0_brokenPairs 51 = .ok (.aload_n 0, 1) := by decide +kernel
theorem dX0_brokenPairs_52 : decode cX0_brokenPairs 52 = .ok (.iload_n 3, 1) := by decide +kernel
theorem dX0_brokenPairs_53 : decode cX0_brokenPairs 53 = .ok (.invokevirtual 44, 3) := by decide +kernel
theorem dX0_brokenPairs_56 : decode cX0_brokenPairs 56 = .ok (.if_icmp .ge 6, 3) := by decide +kernel
theorem dX0_brokenPairs_59 : decode cX0_brokenPairs 59 = .ok (.iinc 1 1, 3) := by decide +kernel
theorem dX0_brokenPairs_62 : decode cX0_brokenPairs 62 = .ok (.iinc 2 1, 3) := by decide +kernel
theorem dX0_brokenPairs_65 : decode cX0_brokenPairs 65 = .ok (.goto (-61), 3) := by decide +kernel
theorem dX0_brokenPairs_68 : decode cX0_brokenPairs 68 = .ok (.iload_n 1, 1) := by decide +kernel
theorem dX0_brokenPairs_69 : decode cX0_brokenPairs 69 = .ok (.ireturn, 1) := by decide +kernel
