theorem dX5_init_0 : decode cX5_init 0 = .ok (.aload_n 0, 1) := by decide +kernel
theorem dX5_init_1 : decode cX5_init 1 = .ok (.invokespecial 3, 3) := by decide +kernel
theorem dX5_init_4 : decode cX5_init 4 = .ok (.aload_n 0, 1) := by decide +kernel
theorem dX5_init_5 : decode cX5_init 5 = .ok (.new 9, 3) := by decide +kernel
theorem dX5_init_8 : decode cX5_init 8 = .ok (.dup, 1) := by decide +kernel
theorem dX5_init_9 : decode cX5_init 9 = .ok (.invokespecial 11, 3) := by decide +kernel
theorem dX5_init_12 : decode cX5_init 12 = .ok (.putfield 12, 3) := by decide +kernel
theorem dX5_init_15 : decode cX5_init 15 = .ok (.aload_n 0, 1) := by decide +kernel
theorem dX5_init_16 : decode cX5_init 16 = .ok (.new 18, 3) := by decide +kernel
theorem dX5_init_19 : decode cX5_init 19 = .ok (.dup, 1) := by decide +kernel
theorem dX5_init_20 : decode cX5_init 20 = .ok (.invokespecial 20, 3) := by decide +kernel
theorem dX5_init_23 : decode cX5_init 23 = .ok (.putfield 21, 3) := by decide +kernel
theorem dX5_init_26 : decode cX5_init 26 = .ok (.aload_n 0, 1) := by decide +kernel
theorem dX5_init_27 : decode cX5_init 27 = .ok (.new 25, 3) := by decide +kernel
theorem dX5_init_30 : decode cX5_init 30 = .ok (.dup, 1) := by decide +kernel
theorem dX5_init_31 : decode cX5_init 31 = .ok (.iconst 1, 1) := by decide +kernel
theorem dX5_init_32 : decode cX5_init 32 = .ok (.invokespecial 27, 3) := by decide +kernel
theorem dX5_init_35 : decode cX5_init 35 = .ok (.putfield 30, 3) := by decide +kernel
theorem dX5_init_38 : decode cX5_init 38 = .ok (.aload_n 0, 1) := by decide +kernel
theorem dX5_init_39 : decode cX5_init 39 = .ok (.new 25, 3) := by decide +kernel
theorem dX5_init_42 : decode cX5_init 42 = .ok (.dup, 1) := by decide +kernel
theorem dX5_init_43 : decode cX5_init 43 = .ok (.iconst 0, 1) := by decide +kernel
theorem dX5_init_44 : decode cX5_init 44 = .ok (.invokespecial 27, 3) := by decide +kernel
theorem dX5_init_47 : decode cX5_init 47 = .ok (.putfield 34, 3) := by decide +kernel
theorem dX5_init_50 : decode cX5_init 50 = .ok (.return_, 1) := by decide +kernel
theorem dX5_layout_0 : decode cX5_layout 0 = .ok (.iload_n 1, 1) := by decide +kernel
theorem dX5_layout_1 : decode cX5_layout 1 = .ok (.tableswitch 42 0 2 #[27, 32, 37], 27) := by decide +kernel
theorem dX5_layout_28 : decode cX5_layout 28 = .ok (.aload_n 0, 1) := by decide +kernel
theorem dX5_layout_29 : decode cX5_layout 29 = .ok (.getfield 12, 3) := by decide +kernel
theorem dX5_layout_32 : decode cX5_layout 32 = .ok (.areturn, 1) := by decide +kernel
theorem dX5_layout_33 : decode cX5_layout 33 = .ok (.aload_n 0, 1) := by decide +kernel
theorem dX5_layout_34 : decode cX5_layout 34 = .ok (.getfield 21, 3) := by decide +kernel
theorem dX5_layout_37 : decode cX5_layout 37 = .ok (.areturn, 1) := by decide +kernel
theorem dX5_layout_38 : decode cX5_layout 38 = .ok (.aload_n 0, 1) := by decide +kernel
theorem dX5_layout_39 : decode cX5_layout 39 = .ok (.getfield 30, 3) := by decide +kernel
theorem dX5_layout_42 : decode cX5_layout 42 = .ok (.areturn, 1) := by decide +kernel
theorem dX5_layout_43 : decode cX5_layout 43 = .ok (.aload_n 0, 1) := by decide +kernel
theorem dX5_layout_44 : decode cX5_layout 44 = .ok (.getfield 34, 3) := by decide +kernel
theorem dX5_layout_47 : decode cX5_layout 47 = .ok (.areturn, 1) := by decide +kernel
theorem dX5_itemCount_0 : decode cX5_itemCount 0 = .ok (.aload_n 0, 1) := by decide +kernel
theorem dX5_itemCount_1 : decode cX5_itemCount 1 = .ok (.getfield 12, 3) := by decide +kernel
theorem dX5_itemCount_4 : decode cX5_itemCount 4 = .ok (.getfield 37, 3) := by decide +kernel
theorem dX5_itemCount_7 : decode cX5_itemCount 7 = .ok (.ireturn, 1) := by decide +kernel
theorem dX5_has_0 : decode cX5_has 0 = .ok (.aload_n 0, 1) := by decide +kernel
theorem dX5_has_1 : decode cX5_has 1 = .ok (.getfield 12, 3) := by decide +kernel
theorem dX5_has_4 : decode cX5_has 4 = .ok (.iload_n 1, 1) := by decide +kernel
theorem dX5_has_5 : decode cX5_has 5 = .ok (.invokevirtual 41, 3) := by decide +kernel
theorem dX5_has_8 : decode cX5_has 8 = .ok (.iconst (-1), 1) := by decide +kernel
theorem dX5_has_9 : decode cX5_has 9 = .ok (.if_icmp .eq 7, 3) := by decide +kernel
theorem dX5_has_12 : decode cX5_has 12 = .ok (.iconst 1, 1) := by decide +kernel
theorem dX5_has_13 : decode cX5_has 13 = .ok (.goto 4, 3) := by decide +kernel
theorem dX5_has_16 : decode cX5_has 16 = .ok (.iconst 0, 1) := by decide +kernel
theorem dX5_has_17 : decode cX5_has 17 = .ok (.ireturn, 1) := by decide +kernel
theorem dX5_keyOf_0 : decode cX5_keyOf 0 = .ok (.aload_n 0, 1) := by decide +kernel
theorem dX5_keyOf_1 : decode cX5_keyOf 1 = .ok (.getfield 12, 3) := by decide +kernel
theorem dX5_keyOf_4 : decode cX5_keyOf 4 = .ok (.aload_n 0, 1) := by decide +kernel
theorem dX5_keyOf_5 : decode cX5_keyOf 5 = .ok (.getfield 12, 3) := by decide +kernel
theorem dX5_keyOf_8 : decode cX5_keyOf 8 = .ok (.iload_n 1, 1) := by decide +kernel
theorem dX5_keyOf_9 : decode cX5_keyOf 9 = .ok (.invokevirtual 41, 3) := by decide +kernel
theorem dX5_keyOf_12 : decode cX5_keyOf 12 = .ok (.invokevirtual 45, 3) := by decide +kernel
theorem dX5_keyOf_15 : decode cX5_keyOf 15 = .ok (.ireturn, 1) := by decide +kernel
theorem dX5_handleSet_0 : decode cX5_handleSet 0 = .ok (.iconst 0, 1) := by decide +kernel
theorem dX5_handleSet_1 : decode cX5_handleSet 1 = .ok (.istore_n 1, 1) := by decide +kernel
theorem dX5_handleSet_2 : decode cX5_handleSet 2 = .ok (.iconst 0, 1) := by decide +kernel
theorem dX5_handleSet_3 : decode cX5_handleSet 3 = .ok (.istore_n 2, 1) := by decide +kernel
theorem dX5_handleSet_4 : decode cX5_handleSet 4 = .ok (.iload_n 2, 1) := by decide +kernel
theorem dX5_handleSet_5 : decode cX5_handleSet 5 = .ok (.aload_n 0, 1) := by decide +kernel
theorem dX5_handleSet_6 : decode cX5_handleSet 6 = .ok (.getfield 12, 3) := by decide +kernel
theorem dX5_handleSet_9 : decode cX5_handleSet 9 = .ok (.getfield 37, 3) := by decide +kernel
theorem dX5_handleSet_12 : decode cX5_handleSet 12 = .ok (.if_icmp .ge 22, 3) := by decide +kernel
theorem dX5_handleSet_15 : decode cX5_handleSet 15 = .ok (.iload_n 1, 1) := by decide +kernel
theorem dX5_handleSet_16 : decode cX5_handleSet 16 = .ok (.iconst 1, 1) := by decide +kernel
theorem dX5_handleSet_17 : decode cX5_handleSet 17 = .ok (.aload_n 0, 1) := by decide +kernel
theorem dX5_handleSet_18 : decode cX5_handleSet 18 = .ok (.getfield 12, 3) := by decide +kernel
theorem dX5_handleSet_21 : decode cX5_handleSet 21 = .ok (.iload_n 2, 1) := by decide +kernel
theorem dX5_handleSet_22 : decode cX5_handleSet 22 = .ok (.invokevirtual 48, 3) := by decide +kernel
theorem dX5_handleSet_25 : decode cX5_handleSet 25 = .ok (.ishl, 1) := by decide +kernel
theorem dX5_handleSet_26 : decode cX5_handleSet 26 = .ok (.ior, 1) := by decide +kernel
theorem dX5_handleSet_27 : decode cX5_handleSet 27 = .ok (.istore_n 1, 1) := by decide +kernel
theorem dX5_handleSet_28 : decode cX5_handleSet 28 = .ok (.iinc 2 1, 3) := by decide +kernel
theorem dX5_handleSet_31 : decode cX5_handleSet 31 = .ok (.goto (-27), 3) := by decide +kernel
theorem dX5_handleSet_34 : decode cX5_handleSet 34 = .ok (.iload_n 1, 1) := by decide +kernel
theorem dX5_handleSet_35 : decode cX5_handleSet 35 = .ok (.ireturn, 1) := by decide +kernel
theorem dX5_countLess_0 : decode cX5_countLess 0 = .ok (.aload_n 0, 1) := by decide +kernel
theorem dX5_countLess_1 : decode cX5_countLess 1 = .ok (.getfield 12, 3) := by decide +kernel
theorem dX5_countLess_4 : decode cX5_countLess 4 = .ok (.aload_n 0, 1) := by decide +kernel
theorem dX5_countLess_5 : decode cX5_countLess 5 = .ok (.getfield 12, 3) := by decide +kernel
theorem dX5_countLess_8 : decode cX5_countLess 8 = .ok (.iload_n 1, 1) := by decide +kernel
theorem dX5_countLess_9 : decode cX5_countLess 9 = .ok (.invokevirtual 41, 3) := by decide +kernel
theorem dX5_countLess_12 : decode cX5_countLess 12 = .ok (.invokevirtual 51, 3) := by decide +kernel
theorem dX5_countLess_15 : decode cX5_countLess 15 = .ok (.istore_n 2, 1) := by decide +kernel
theorem dX5_countLess_16 : decode cX5_countLess 16 = .ok (.iconst 0, 1) := by decide +kernel
theorem dX5_countLess_17 : decode cX5_countLess 17 = .ok (.istore_n 3, 1) := by decide +kernel
theorem dX5_countLess_18 : decode cX5_countLess 18 = .ok (.iconst 0, 1) := by decide +kernel
theorem dX5_countLess_19 : decode cX5_countLess 19 = .ok (.istore 4, 2) := by decide +kernel
theorem dX5_countLess_21 : decode cX5_countLess 21 = .ok (.iload 4, 2) := by decide +kernel
theorem dX5_countLess_23 : decode cX5_countLess 23 = .ok (.aload_n 0, 1) := by decide +kernel
theorem dX5_countLess_24 : decode cX5_countLess 24 = .ok (.getfield 12, 3) := by decide +kernel
theorem dX5_countLess_27 : decode cX5_countLess 27 = .ok (.getfield 37, 3) := by decide +kernel
theorem dX5_countLess_30 : decode cX5_countLess 30 = .ok (.if_icmp .ge 25, 3) := by decide +kernel
theorem dX5_countLess_33 : decode cX5_countLess 33 = .ok (.aload_n 0, 1) := by decide +kernel
theorem dX5_countLess_34 : decode cX5_countLess 34 = .ok (.getfield 12, 3) := by decide +kernel
theorem dX5_countLess_37 : decode cX5_countLess 37 = .ok (.iload 4, 2) := by decide +kernel
theorem dX5_countLess_39 : decode cX5_countLess 39 = .ok (.invokevirtual 51, 3) := by decide +kernel
theorem dX5_countLess_42 : decode cX5_countLess 42 = .ok (.iload_n 2, 1) := by decide +kernel
theorem dX5_countLess_43 : decode cX5_countLess 43 = .ok (.if_icmp .ge 6, 3) := by decide +kernel
theorem dX5_countLess_46 : decode cX5_countLess 46 = .ok (.iinc 3 1, 3) := by decide +kernel
theorem dX5_countLess_49 : decode cX5_countLess 49 = .ok (.iinc 4 1, 3) := by decide +kernel
theorem dX5_countLess_52 : decode cX5_countLess 52 = .ok (.goto (-31), 3) := by decide +kernel
theorem dX5_countLess_55 : decode cX5_countLess 55 = .ok (.iload_n 3, 1) := by decide +kernel
theorem dX5_countLess_56 : decode cX5_countLess 56 = .ok (.ireturn, 1) := by decide +kernel
theorem dX5_leastOf_0 : decode cX5_leastOf 0 = .ok (.aload_n 0, 1) := by decide +kernel
theorem dX5_leastOf_1 : decode cX5_leastOf 1 = .ok (.iload_n 1, 1) := by decide +kernel
theorem dX5_leastOf_2 : decode cX5_leastOf 2 = .ok (.invokevirtual 54, 3) := by decide +kernel
theorem dX5_leastOf_5 : decode cX5_leastOf 5 = .ok (.iconst 0, 1) := by decide +kernel
theorem dX5_leastOf_6 : decode cX5_leastOf 6 = .ok (.invokevirtual 58, 3) := by decide +kernel
theorem dX5_leastOf_9 : decode cX5_leastOf 9 = .ok (.ireturn, 1) := by decide +kernel
theorem dX5_greatestOf_0 : decode cX5_greatestOf 0 = .ok (.iload_n 1, 1) := by decide +kernel
theorem dX5_greatestOf_1 : decode cX5_greatestOf 1 = .ok (.lookupswitch 57 #[(0, 27), (1, 42)], 27) := by decide +kernel
theorem dX5_greatestOf_28 : decode cX5_greatestOf 28 = .ok (.aload_n 0, 1) := by decide +kernel
theorem dX5_greatestOf_29 : decode cX5_greatestOf 29 = .ok (.getfield 12, 3) := by decide +kernel
theorem dX5_greatestOf_32 : decode cX5_greatestOf 32 = .ok (.aload_n 0, 1) := by decide +kernel
theorem dX5_greatestOf_33 : decode cX5_greatestOf 33 = .ok (.getfield 12, 3) := by decide +kernel
theorem dX5_greatestOf_36 : decode cX5_greatestOf 36 = .ok (.invokevirtual 61, 3) := by decide +kernel
theorem dX5_greatestOf_39 : decode cX5_greatestOf 39 = .ok (.invokevirtual 48, 3) := by decide +kernel
theorem dX5_greatestOf_42 : decode cX5_greatestOf 42 = .ok (.ireturn, 1) := by decide +kernel
theorem dX5_greatestOf_43 : decode cX5_greatestOf 43 = .ok (.aload_n 0, 1) := by decide +kernel
theorem dX5_greatestOf_44 : decode cX5_greatestOf 44 = .ok (.getfield 21, 3) := by decide +kernel
theorem dX5_greatestOf_47 : decode cX5_greatestOf 47 = .ok (.aload_n 0, 1) := by decide +kernel
theorem dX5_greatestOf_48 : decode cX5_greatestOf 48 = .ok (.getfield 21, 3) := by decide +kernel
theorem dX5_greatestOf_51 : decode cX5_greatestOf 51 = .ok (.invokevirtual 65, 3) := by decide +kernel
theorem dX5_greatestOf_54 : decode cX5_greatestOf 54 = .ok (.invokevirtual 66, 3) := by decide +kernel
theorem dX5_greatestOf_57 : decode cX5_greatestOf 57 = .ok (.ireturn, 1) := by decide +kernel
theorem dX5_greatestOf_58 : decode cX5_greatestOf 58 = .ok (.aload_n 0, 1) := by decide +kernel
theorem dX5_greatestOf_59 : decode cX5_greatestOf 59 = .ok (.getfield 34, 3) := by decide +kernel
theorem dX5_greatestOf_62 : decode cX5_greatestOf 62 = .ok (.iconst 0, 1) := by decide +kernel
theorem dX5_greatestOf_63 : decode cX5_greatestOf 63 = .ok (.invokevirtual 67, 3) := by decide +kernel
theorem dX5_greatestOf_66 : decode cX5_greatestOf 66 = .ok (.ireturn, 1) := by decide +kernel
theorem dX5_countedIn_0 : decode cX5_countedIn 0 = .ok (.iload_n 1, 1) := by decide +kernel
theorem dX5_countedIn_1 : decode cX5_countedIn 1 = .ok (.iconst 2, 1) := by decide +kernel
theorem dX5_countedIn_2 : decode cX5_countedIn 2 = .ok (.if_icmp .ne 21, 3) := by decide +kernel
theorem dX5_countedIn_5 : decode cX5_countedIn 5 = .ok (.aload_n 0, 1) := by decide +kernel
theorem dX5_countedIn_6 : decode cX5_countedIn 6 = .ok (.getfield 30, 3) := by decide +kernel
theorem dX5_countedIn_9 : decode cX5_countedIn 9 = .ok (.getfield 68, 3) := by decide +kernel
theorem dX5_countedIn_12 : decode cX5_countedIn 12 = .ok (.aload_n 0, 1) := by decide +kernel
theorem dX5_countedIn_13 : decode cX5_countedIn 13 = .ok (.getfield 34, 3) := by decide +kernel
theorem dX5_countedIn_16 : decode cX5_countedIn 16 = .ok (.getfield 68, 3) := by decide +kernel
theorem dX5_countedIn_19 : decode cX5_countedIn 19 = .ok (.iadd, 1) := by decide +kernel
theorem dX5_countedIn_20 : decode cX5_countedIn 20 = .ok (.goto 11, 3) := by decide +kernel
theorem dX5_countedIn_23 : decode cX5_countedIn 23 = .ok (.aload_n 0, 1) := by decide +kernel
theorem dX5_countedIn_24 : decode cX5_countedIn 24 = .ok (.iload_n 1, 1) := by decide +kernel
theorem dX5_countedIn_25 : decode cX5_countedIn 25 = .ok (.invokevirtual 54, 3) := by decide +kernel
theorem dX5_countedIn_28 : decode cX5_countedIn 28 = .ok (.getfield 71, 3) := by decide +kernel
theorem dX5_countedIn_31 : decode cX5_countedIn 31 = .ok (.ireturn, 1) := by decide +kernel
theorem dX5_countedInAll_0 : decode cX5_countedInAll 0 = .ok (.aload_n 0, 1) := by decide +kernel
theorem dX5_countedInAll_1 : decode cX5_countedInAll 1 = .ok (.iconst 0, 1) := by decide +kernel
theorem dX5_countedInAll_2 : decode cX5_countedInAll 2 = .ok (.invokevirtual 72, 3) := by decide +kernel
theorem dX5_countedInAll_5 : decode cX5_countedInAll 5 = .ok (.aload_n 0, 1) := by decide +kernel
theorem dX5_countedInAll_6 : decode cX5_countedInAll 6 = .ok (.iconst 1, 1) := by decide +kernel
theorem dX5_countedInAll_7 : decode cX5_countedInAll 7 = .ok (.invokevirtual 72, 3) := by decide +kernel
theorem dX5_countedInAll_10 : decode cX5_countedInAll 10 = .ok (.iadd, 1) := by decide +kernel
theorem dX5_countedInAll_11 : decode cX5_countedInAll 11 = .ok (.aload_n 0, 1) := by decide +kernel
theorem dX5_countedInAll_12 : decode cX5_countedInAll 12 = .ok (.iconst 2, 1) := by decide +kernel
theorem dX5_countedInAll_13 : decode cX5_countedInAll 13 = .ok (.invokevirtual 72, 3) := by decide +kernel
theorem dX5_countedInAll_16 : decode cX5_countedInAll 16 = .ok (.iadd, 1) := by decide +kernel
theorem dX5_countedInAll_17 : decode cX5_countedInAll 17 = .ok (.ireturn, 1) := by decide +kernel
theorem dX5_forgetCounts_0 : decode cX5_forgetCounts 0 = .ok (.iconst 0, 1) := by decide +kernel
theorem dX5_forgetCounts_1 : decode cX5_forgetCounts 1 = .ok (.istore_n 1, 1) := by decide +kernel
theorem dX5_forgetCounts_2 : decode cX5_forgetCounts 2 = .ok (.iload_n 1, 1) := by decide +kernel
theorem dX5_forgetCounts_3 : decode cX5_forgetCounts 3 = .ok (.iconst 4, 1) := by decide +kernel
theorem dX5_forgetCounts_4 : decode cX5_forgetCounts 4 = .ok (.if_icmp .ge 18, 3) := by decide +kernel
theorem dX5_forgetCounts_7 : decode cX5_forgetCounts 7 = .ok (.aload_n 0, 1) := by decide +kernel
theorem dX5_forgetCounts_8 : decode cX5_forgetCounts 8 = .ok (.iload_n 1, 1) := by decide +kernel
theorem dX5_forgetCounts_9 : decode cX5_forgetCounts 9 = .ok (.invokevirtual 54, 3) := by decide +kernel
theorem dX5_forgetCounts_12 : decode cX5_forgetCounts 12 = .ok (.iconst 0, 1) := by decide +kernel
theorem dX5_forgetCounts_13 : decode cX5_forgetCounts 13 = .ok (.putfield 71, 3) := by decide +kernel
theorem dX5_forgetCounts_16 : decode cX5_forgetCounts 16 = .ok (.iinc 1 1, 3) := by decide +kernel
theorem dX5_forgetCounts_19 : decode cX5_forgetCounts 19 = .ok (.goto (-17), 3) := by decide +kernel
theorem dX5_forgetCounts_22 : decode cX5_forgetCounts 22 = .ok (.return_, 1) := by decide +kernel
theorem dX5_lowestFreeHandle_0 : decode cX5_lowestFreeHandle 0 = .ok (.iconst 0, 1) := by decide +kernel
theorem dX5_lowestFreeHandle_1 : decode cX5_lowestFreeHandle 1 = .ok (.istore_n 1, 1) := by decide +kernel
theorem dX5_lowestFreeHandle_2 : decode cX5_lowestFreeHandle 2 = .ok (.iload_n 1, 1) := by decide +kernel
theorem dX5_lowestFreeHandle_3 : decode cX5_lowestFreeHandle 3 = .ok (.bipush 30, 2) := by decide +kernel
theorem dX5_lowestFreeHandle_5 : decode cX5_lowestFreeHandle 5 = .ok (.if_icmp .ge 17, 3) := by decide +kernel
theorem dX5_lowestFreeHandle_8 : decode cX5_lowestFreeHandle 8 = .ok (.aload_n 0, 1) := by decide +kernel
theorem dX5_lowestFreeHandle_9 : decode cX5_lowestFreeHandle 9 = .ok (.iload_n 1, 1) := by decide +kernel
theorem dX5_lowestFreeHandle_10 : decode cX5_lowestFreeHandle 10 = .ok (.invokevirtual 75, 3) := by decide +kernel
theorem dX5_lowestFreeHandle_13 : decode cX5_lowestFreeHandle 13 = .ok (.ifCond .eq 9, 3) := by decide +kernel
theorem dX5_lowestFreeHandle_16 : decode cX5_lowestFreeHandle 16 = .ok (.iinc 1 1, 3) := by decide +kernel
theorem dX5_lowestFreeHandle_19 : decode cX5_lowestFreeHandle 19 = .ok (.goto (-17), 3) := by decide +kernel
theorem dX5_lowestFreeHandle_22 : decode cX5_lowestFreeHandle 22 = .ok (.iload_n 1, 1) := by decide +kernel
theorem dX5_lowestFreeHandle_23 : decode cX5_lowestFreeHandle 23 = .ok (.ireturn, 1) := by decide +kernel
theorem dX5_putIn_0 : decode cX5_putIn 0 = .ok (.aload_n 0, 1) := by decide +kernel
theorem dX5_putIn_1 : decode cX5_putIn 1 = .ok (.invokevirtual 79, 3) := by decide +kernel
theorem dX5_putIn_4 : decode cX5_putIn 4 = .ok (.istore_n 2, 1) := by decide +kernel
theorem dX5_putIn_5 : decode cX5_putIn 5 = .ok (.iconst 0, 1) := by decide +kernel
theorem dX5_putIn_6 : decode cX5_putIn 6 = .ok (.istore_n 3, 1) := by decide +kernel
theorem dX5_putIn_7 : decode cX5_putIn 7 = .ok (.iload_n 3, 1) := by decide +kernel
theorem dX5_putIn_8 : decode cX5_putIn 8 = .ok (.iconst 4, 1) := by decide +kernel
theorem dX5_putIn_9 : decode cX5_putIn 9 = .ok (.if_icmp .ge 19, 3) := by decide +kernel
theorem dX5_putIn_12 : decode cX5_putIn 12 = .ok (.aload_n 0, 1) := by decide +kernel
theorem dX5_putIn_13 : decode cX5_putIn 13 = .ok (.iload_n 3, 1) := by decide +kernel
theorem dX5_putIn_14 : decode cX5_putIn 14 = .ok (.invokevirtual 54, 3) := by decide +kernel
theorem dX5_putIn_17 : decode cX5_putIn 17 = .ok (.iload_n 2, 1) := by decide +kernel
theorem dX5_putIn_18 : decode cX5_putIn 18 = .ok (.iload_n 1, 1) := by decide +kernel
theorem dX5_putIn_19 : decode cX5_putIn 19 = .ok (.invokevirtual 82, 3) := by decide +kernel
theorem dX5_putIn_22 : decode cX5_putIn 22 = .ok (.iinc 3 1, 3) := by decide +kernel
theorem dX5_putIn_25 : decode cX5_putIn 25 = .ok (.goto (-18), 3) := by decide +kernel
theorem dX5_putIn_28 : decode cX5_putIn 28 = .ok (.iload_n 2, 1) := by decide +kernel
theorem dX5_putIn_29 : decode cX5_putIn 29 = .ok (.ireturn, 1) := by decide +kernel
theorem dX5_takeOut_0 : decode cX5_takeOut 0 = .ok (.iconst 0, 1) := by decide +kernel
theorem dX5_takeOut_1 : decode cX5_takeOut 1 = .ok (.istore_n 2, 1) := by decide +kernel
theorem dX5_takeOut_2 : decode cX5_takeOut 2 = .ok (.iload_n 2, 1) := by decide +kernel
theorem dX5_takeOut_3 : decode cX5_takeOut 3 = .ok (.iconst 4, 1) := by decide +kernel
theorem dX5_takeOut_4 : decode cX5_takeOut 4 = .ok (.if_icmp .ge 18, 3) := by decide +kernel
theorem dX5_takeOut_7 : decode cX5_takeOut 7 = .ok (.aload_n 0, 1) := by decide +kernel
theorem dX5_takeOut_8 : decode cX5_takeOut 8 = .ok (.iload_n 2, 1) := by decide +kernel
theorem dX5_takeOut_9 : decode cX5_takeOut 9 = .ok (.invokevirtual 54, 3) := by decide +kernel
theorem dX5_takeOut_12 : decode cX5_takeOut 12 = .ok (.iload_n 1, 1) := by decide +kernel
theorem dX5_takeOut_13 : decode cX5_takeOut 13 = .ok (.invokevirtual 86, 3) := by decide +kernel
theorem dX5_takeOut_16 : decode cX5_takeOut 16 = .ok (.iinc 2 1, 3) := by decide +kernel
theorem dX5_takeOut_19 : decode cX5_takeOut 19 = .ok (.goto (-17), 3) := by decide +kernel
theorem dX5_takeOut_22 : decode cX5_takeOut 22 = .ok (.return_, 1) := by decide +kernel
theorem dX5_takeOutOf_0 : decode cX5_takeOutOf 0 = .ok (.aload_n 0, 1) := by decide +kernel
theorem dX5_takeOutOf_1 : decode cX5_takeOutOf 1 = .ok (.iload_n 1, 1) := by decide +kernel
theorem dX5_takeOutOf_2 : decode cX5_takeOutOf 2 = .ok (.invokevirtual 54, 3) := by decide +kernel
theorem dX5_takeOutOf_5 : decode cX5_takeOutOf 5 = .ok (.iload_n 2, 1) := by decide +kernel
theorem dX5_takeOutOf_6 : decode cX5_takeOutOf 6 = .ok (.invokevirtual 86, 3) := by decide +kernel
theorem dX5_takeOutOf_9 : decode cX5_takeOutOf 9 = .ok (.iload_n 1, 1) := by decide +kernel
theorem dX5_takeOutOf_10 : decode cX5_takeOutOf 10 = .ok (.iconst 2, 1) := by decide +kernel
theorem dX5_takeOutOf_11 : decode cX5_takeOutOf 11 = .ok (.if_icmp .ne 11, 3) := by decide +kernel
theorem dX5_takeOutOf_14 : decode cX5_takeOutOf 14 = .ok (.aload_n 0, 1) := by decide +kernel
theorem dX5_takeOutOf_15 : decode cX5_takeOutOf 15 = .ok (.getfield 34, 3) := by decide +kernel
theorem dX5_takeOutOf_18 : decode cX5_takeOutOf 18 = .ok (.iload_n 2, 1) := by decide +kernel
theorem dX5_takeOutOf_19 : decode cX5_takeOutOf 19 = .ok (.invokevirtual 90, 3) := by decide +kernel
theorem dX5_takeOutOf_22 : decode cX5_takeOutOf 22 = .ok (.return_, 1) := by decide +kernel
theorem dX5_giveKey_0 : decode cX5_giveKey 0 = .ok (.iconst 0, 1) := by decide +kernel
theorem dX5_giveKey_1 : decode cX5_giveKey 1 = .ok (.istore_n 3, 1) := by decide +kernel
theorem dX5_giveKey_2 : decode cX5_giveKey 2 = .ok (.iload_n 3, 1) := by decide +kernel
theorem dX5_giveKey_3 : decode cX5_giveKey 3 = .ok (.iconst 4, 1) := by decide +kernel
theorem dX5_giveKey_4 : decode cX5_giveKey 4 = .ok (.if_icmp .ge 19, 3) := by decide +kernel
theorem dX5_giveKey_7 : decode cX5_giveKey 7 = .ok (.aload_n 0, 1) := by decide +kernel
theorem dX5_giveKey_8 : decode cX5_giveKey 8 = .ok (.iload_n 3, 1) := by decide +kernel
theorem dX5_giveKey_9 : decode cX5_giveKey 9 = .ok (.invokevirtual 54, 3) := by decide +kernel
theorem dX5_giveKey_12 : decode cX5_giveKey 12 = .ok (.iload_n 1, 1) := by decide +kernel
theorem dX5_giveKey_13 : decode cX5_giveKey 13 = .ok (.iload_n 2, 1) := by decide +kernel
theorem dX5_giveKey_14 : decode cX5_giveKey 14 = .ok (.invokevirtual 91, 3) := by decide +kernel
theorem dX5_giveKey_17 : decode cX5_giveKey 17 = .ok (.iinc 3 1, 3) := by decide +kernel
theorem dX5_giveKey_20 : decode cX5_giveKey 20 = .ok (.goto (-18), 3) := by decide +kernel
theorem dX5_giveKey_23 : decode cX5_giveKey 23 = .ok (.return_, 1) := by decide +kernel
theorem dX5_arrange_0 : decode cX5_arrange 0 = .ok (.iconst 0, 1) := by decide +kernel
theorem dX5_arrange_1 : decode cX5_arrange 1 = .ok (.istore_n 1, 1) := by decide +kernel
theorem dX5_arrange_2 : decode cX5_arrange 2 = .ok (.iload_n 1, 1) := by decide +kernel
theorem dX5_arrange_3 : decode cX5_arrange 3 = .ok (.iconst 4, 1) := by decide +kernel
theorem dX5_arrange_4 : decode cX5_arrange 4 = .ok (.if_icmp .ge 17, 3) := by decide +kernel
theorem dX5_arrange_7 : decode cX5_arrange 7 = .ok (.aload_n 0, 1) := by decide +kernel
theorem dX5_arrange_8 : decode cX5_arrange 8 = .ok (.iload_n 1, 1) := by decide +kernel
theorem dX5_arrange_9 : decode cX5_arrange 9 = .ok (.invokevirtual 54, 3) := by decide +kernel
theorem dX5_arrange_12 : decode cX5_arrange 12 = .ok (.invokevirtual 94, 3) := by decide +kernel
theorem dX5_arrange_15 : decode cX5_arrange 15 = .ok (.iinc 1 1, 3) := by decide +kernel
theorem dX5_arrange_18 : decode cX5_arrange 18 = .ok (.goto (-16), 3) := by decide +kernel
theorem dX5_arrange_21 : decode cX5_arrange 21 = .ok (.return_, 1) := by decide +kernel
theorem dX5_empty_0 : decode cX5_empty 0 = .ok (.iconst 0, 1) := by decide +kernel
theorem dX5_empty_1 : decode cX5_empty 1 = .ok (.istore_n 1, 1) := by decide +kernel
theorem dX5_empty_2 : decode cX5_empty 2 = .ok (.iload_n 1, 1) := by decide +kernel
theorem dX5_empty_3 : decode cX5_empty 3 = .ok (.iconst 4, 1) := by decide +kernel
theorem dX5_empty_4 : decode cX5_empty 4 = .ok (.if_icmp .ge 18, 3) := by decide +kernel
theorem dX5_empty_7 : decode cX5_empty 7 = .ok (.aload_n 0, 1) := by decide +kernel
theorem dX5_empty_8 : decode cX5_empty 8 = .ok (.iload_n 1, 1) := by decide +kernel
theorem dX5_empty_9 : decode cX5_empty 9 = .ok (.invokevirtual 54, 3) := by decide +kernel
theorem dX5_empty_12 : decode cX5_empty 12 = .ok (.iconst 0, 1) := by decide +kernel
theorem dX5_empty_13 : decode cX5_empty 13 = .ok (.putfield 97, 3) := by decide +kernel
theorem dX5_empty_16 : decode cX5_empty 16 = .ok (.iinc 1 1, 3) := by decide +kernel
theorem dX5_empty_19 : decode cX5_empty 19 = .ok (.goto (-17), 3) := by decide +kernel
theorem dX5_empty_22 : decode cX5_empty 22 = .ok (.return_, 1) := by decide +kernel
theorem dX5_copyFrom_0 : decode cX5_copyFrom 0 = .ok (.iconst 0, 1) := by decide +kernel
theorem dX5_copyFrom_1 : decode cX5_copyFrom 1 = .ok (.istore_n 2, 1) := by decide +kernel
theorem dX5_copyFrom_2 : decode cX5_copyFrom 2 = .ok (.iload_n 2, 1) := by decide +kernel
theorem dX5_copyFrom_3 : decode cX5_copyFrom 3 = .ok (.iconst 4, 1) := by decide +kernel
theorem dX5_copyFrom_4 : decode cX5_copyFrom 4 = .ok (.if_icmp .ge 22, 3) := by decide +kernel
theorem dX5_copyFrom_7 : decode cX5_copyFrom 7 = .ok (.aload_n 0, 1) := by decide +kernel
theorem dX5_copyFrom_8 : decode cX5_copyFrom 8 = .ok (.iload_n 2, 1) := by decide +kernel
theorem dX5_copyFrom_9 : decode cX5_copyFrom 9 = .ok (.invokevirtual 54, 3) := by decide +kernel
theorem dX5_copyFrom_12 : decode cX5_copyFrom 12 = .ok (.aload_n 1, 1) := by decide +kernel
theorem dX5_copyFrom_13 : decode cX5_copyFrom 13 = .ok (.iload_n 2, 1) := by decide +kernel
theorem dX5_copyFrom_14 : decode cX5_copyFrom 14 = .ok (.invokevirtual 54, 3) := by decide +kernel
theorem dX5_copyFrom_17 : decode cX5_copyFrom 17 = .ok (.invokevirtual 98, 3) := by decide +kernel
theorem dX5_copyFrom_20 : decode cX5_copyFrom 20 = .ok (.iinc 2 1, 3) := by decide +kernel
theorem dX5_copyFrom_23 : decode cX5_copyFrom 23 = .ok (.goto (-21), 3) := by decide +kernel
theorem dX5_copyFrom_26 : decode cX5_copyFrom 26 = .ok (.return_, 1) := by decide +kernel
theorem dX5_isPossible_0 : decode cX5_isPossible 0 = .ok (.iload_n 1, 1) := by decide +kernel
theorem dX5_isPossible_1 : decode cX5_isPossible 1 = .ok (.tableswitch 101 0 5 #[39, 61, 61, 74, 101, 80], 39) := by decide +kernel
theorem dX5_isPossible_40 : decode cX5_isPossible 40 = .ok (.iload_n 3, 1) := by decide +kernel
theorem dX5_isPossible_41 : decode cX5_isPossible 41 = .ok (.invokestatic 102, 3) := by decide +kernel
theorem dX5_isPossible_44 : decode cX5_isPossible 44 = .ok (.ifCond .eq 16, 3) := by decide +kernel
theorem dX5_isPossible_47 : decode cX5_isPossible 47 = .ok (.aload_n 0, 1) := by decide +kernel
theorem dX5_isPossible_48 : decode cX5_isPossible 48 = .ok (.invokevirtual 105, 3) := by decide +kernel
theorem dX5_isPossible_51 : decode cX5_isPossible 51 = .ok (.bipush 30, 2) := by decide +kernel
theorem dX5_isPossible_53 : decode cX5_isPossible 53 = .ok (.if_icmp .ge 7, 3) := by decide +kernel
theorem dX5_isPossible_56 : decode cX5_isPossible 56 = .ok (.iconst 1, 1) := by decide +kernel
theorem dX5_isPossible_57 : decode cX5_isPossible 57 = .ok (.goto 4, 3) := by decide +kernel
theorem dX5_isPossible_60 : decode cX5_isPossible 60 = .ok (.iconst 0, 1) := by decide +kernel
theorem dX5_isPossible_61 : decode cX5_isPossible 61 = .ok (.ireturn, 1) := by decide +kernel
theorem dX5_isPossible_62 : decode cX5_isPossible 62 = .ok (.aload_n 0, 1) := by decide +kernel
theorem dX5_isPossible_63 : decode cX5_isPossible 63 = .ok (.invokevirtual 105, 3) := by decide +kernel
theorem dX5_isPossible_66 : decode cX5_isPossible 66 = .ok (.ifCond .le 7, 3) := by decide +kernel
theorem dX5_isPossible_69 : decode cX5_isPossible 69 = .ok (.iconst 1, 1) := by decide +kernel
theorem dX5_isPossible_70 : decode cX5_isPossible 70 = .ok (.goto 4, 3) := by decide +kernel
theorem dX5_isPossible_73 : decode cX5_isPossible 73 = .ok (.iconst 0, 1) := by decide +kernel
theorem dX5_isPossible_74 : decode cX5_isPossible 74 = .ok (.ireturn, 1) := by decide +kernel
theorem dX5_isPossible_75 : decode cX5_isPossible 75 = .ok (.aload_n 0, 1) := by decide +kernel
theorem dX5_isPossible_76 : decode cX5_isPossible 76 = .ok (.iload_n 2, 1) := by decide +kernel
theorem dX5_isPossible_77 : decode cX5_isPossible 77 = .ok (.invokevirtual 75, 3) := by decide +kernel
theorem dX5_isPossible_80 : decode cX5_isPossible 80 = .ok (.ireturn, 1) := by decide +kernel
theorem dX5_isPossible_81 : decode cX5_isPossible 81 = .ok (.aload_n 0, 1) := by decide +kernel
theorem dX5_isPossible_82 : decode cX5_isPossible 82 = .ok (.iload_n 2, 1) := by decide +kernel
theorem dX5_isPossible_83 : decode cX5_isPossible 83 = .ok (.invokevirtual 75, 3) := by decide +kernel
theorem dX5_isPossible_86 : decode cX5_isPossible 86 = .ok (.ifCond .eq 14, 3) := by decide +kernel
theorem dX5_isPossible_89 : decode cX5_isPossible 89 = .ok (.iload_n 3, 1) := by decide +kernel
theorem dX5_isPossible_90 : decode cX5_isPossible 90 = .ok (.invokestatic 102, 3) := by decide +kernel
theorem dX5_isPossible_93 : decode cX5_isPossible 93 = .ok (.ifCond .eq 7, 3) := by decide +kernel
theorem dX5_isPossible_96 : decode cX5_isPossible 96 = .ok (.iconst 1, 1) := by decide +kernel
theorem dX5_isPossible_97 : decode cX5_isPossible 97 = .ok (.goto 4, 3) := by decide +kernel
theorem dX5_isPossible_100 : decode cX5_isPossible 100 = .ok (.iconst 0, 1) := by decide +kernel
theorem dX5_isPossible_101 : decode cX5_isPossible 101 = .ok (.ireturn, 1) := by decide +kernel
theorem dX5_isPossible_102 : decode cX5_isPossible 102 = .ok (.iload_n 1, 1) := by decide +kernel
theorem dX5_isPossible_103 : decode cX5_isPossible 103 = .ok (.iconst 4, 1) := by decide +kernel
theorem dX5_isPossible_104 : decode cX5_isPossible 104 = .ok (.if_icmp .ne 7, 3) := by decide +kernel
theorem dX5_isPossible_107 : decode cX5_isPossible 107 = .ok (.iconst 1, 1) := by decide +kernel
theorem dX5_isPossible_108 : decode cX5_isPossible 108 = .ok (.goto 4, 3) := by decide +kernel
theorem dX5_isPossible_111 : decode cX5_isPossible 111 = .ok (.iconst 0, 1) := by decide +kernel
theorem dX5_isPossible_112 : decode cX5_isPossible 112 = .ok (.ireturn, 1) := by decide +kernel
theorem dX5_carryOut_0 : decode cX5_carryOut 0 = .ok (.aload_n 0, 1) := by decide +kernel
theorem dX5_carryOut_1 : decode cX5_carryOut 1 = .ok (.iload_n 1, 1) := by decide +kernel
theorem dX5_carryOut_2 : decode cX5_carryOut 2 = .ok (.iload_n 2, 1) := by decide +kernel
theorem dX5_carryOut_3 : decode cX5_carryOut 3 = .ok (.iload_n 3, 1) := by decide +kernel
theorem dX5_carryOut_4 : decode cX5_carryOut 4 = .ok (.invokevirtual 108, 3) := by decide +kernel
theorem dX5_carryOut_7 : decode cX5_carryOut 7 = .ok (.ifCond .ne 5, 3) := by decide +kernel
theorem dX5_carryOut_10 : decode cX5_carryOut 10 = .ok (.iconst 0, 1) := by decide +kernel
theorem dX5_carryOut_11 : decode cX5_carryOut 11 = .ok (.ireturn, 1) := by decide +kernel
theorem dX5_carryOut_12 : decode cX5_carryOut 12 = .ok (.iload_n 1, 1) := by decide +kernel
theorem dX5_carryOut_13 : decode cX5_carryOut 13 = .ok (.tableswitch 96 0 5 #[39, 48, 60, 79, 96, 87], 39) := by decide +kernel
theorem dX5_carryOut_52 : decode cX5_carryOut 52 = .ok (.aload_n 0, 1) := by decide +kernel
theorem dX5_carryOut_53 : decode cX5_carryOut 53 = .ok (.iload_n 3, 1) := by decide +kernel
theorem dX5_carryOut_54 : decode cX5_carryOut 54 = .ok (.invokevirtual 112, 3) := by decide +kernel
theorem dX5_carryOut_57 : decode cX5_carryOut 57 = .ok (.pop, 1) := by decide +kernel
theorem dX5_carryOut_58 : decode cX5_carryOut 58 = .ok (.goto 55, 3) := by decide +kernel
theorem dX5_carryOut_61 : decode cX5_carryOut 61 = .ok (.aload_n 0, 1) := by decide +kernel
theorem dX5_carryOut_62 : decode cX5_carryOut 62 = .ok (.aload_n 0, 1) := by decide +kernel
theorem dX5_carryOut_63 : decode cX5_carryOut 63 = .ok (.iconst 0, 1) := by decide +kernel
theorem dX5_carryOut_64 : decode cX5_carryOut 64 = .ok (.invokevirtual 114, 3) := by decide +kernel
theorem dX5_carryOut_67 : decode cX5_carryOut 67 = .ok (.invokevirtual 117, 3) := by decide +kernel
theorem dX5_carryOut_70 : decode cX5_carryOut 70 = .ok (.goto 43, 3) := by decide +kernel
theorem dX5_carryOut_73 : decode cX5_carryOut 73 = .ok (.aload_n 0, 1) := by decide +kernel
theorem dX5_carryOut_74 : decode cX5_carryOut 74 = .ok (.getfield 21, 3) := by decide +kernel
theorem dX5_carryOut_77 : decode cX5_carryOut 77 = .ok (.invokevirtual 118, 3) := by decide +kernel
theorem dX5_carryOut_80 : decode cX5_carryOut 80 = .ok (.aload_n 0, 1) := by decide +kernel
theorem dX5_carryOut_81 : decode cX5_carryOut 81 = .ok (.aload_n 0, 1) := by decide +kernel
theorem dX5_carryOut_82 : decode cX5_carryOut 82 = .ok (.iconst 0, 1) := by decide +kernel
theorem dX5_carryOut_83 : decode cX5_carryOut 83 = .ok (.invokevirtual 121, 3) := by decide +kernel
theorem dX5_carryOut_86 : decode cX5_carryOut 86 = .ok (.invokevirtual 117, 3) := by decide +kernel
theorem dX5_carryOut_89 : decode cX5_carryOut 89 = .ok (.goto 24, 3) := by decide +kernel
theorem dX5_carryOut_92 : decode cX5_carryOut 92 = .ok (.aload_n 0, 1) := by decide +kernel
theorem dX5_carryOut_93 : decode cX5_carryOut 93 = .ok (.iload_n 2, 1) := by decide +kernel
theorem dX5_carryOut_94 : decode cX5_carryOut 94 = .ok (.invokevirtual 117, 3) := by decide +kernel
theorem dX5_carryOut_97 : decode cX5_carryOut 97 = .ok (.goto 16, 3) := by decide +kernel
theorem dX5_carryOut_100 : decode cX5_carryOut 100 = .ok (.aload_n 0, 1) := by decide +kernel
theorem dX5_carryOut_101 : decode cX5_carryOut 101 = .ok (.iload_n 2, 1) := by decide +kernel
theorem dX5_carryOut_102 : decode cX5_carryOut 102 = .ok (.iload_n 3, 1) := by decide +kernel
theorem dX5_carryOut_103 : decode cX5_carryOut 103 = .ok (.invokevirtual 124, 3) := by decide +kernel
theorem dX5_carryOut_106 : decode cX5_carryOut 106 = .ok (.goto 7, 3) := by decide +kernel
theorem dX5_carryOut_109 : decode cX5_carryOut 109 = .ok (.aload_n 0, 1) := by decide +kernel
theorem dX5_carryOut_110 : decode cX5_carryOut 110 = .ok (.invokevirtual 125, 3) := by decide +kernel
theorem dX5_carryOut_113 : decode cX5_carryOut 113 = .ok (.iconst 1, 1) := by decide +kernel
theorem dX5_carryOut_114 : decode cX5_carryOut 114 = .ok (.ireturn, 1) := by decide +kernel
